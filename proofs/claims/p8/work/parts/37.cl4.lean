theorem fill_4 {f : Nat} (h : f ≤ 200) : (4 : Int32) - (nI f + 2 - (nI f + 2) / 4 * 4) - ((4 : Int32) - (nI f + 2 - (nI f + 2) / 4 * 4)) / 4 * 4 < 4 := by
  have h1 : nI f + 2 = nI (f + 2) := nI_add f 2
  have h2 : nI (f + 2) - nI (f + 2) / 4 * 4 = nI ((f + 2) % 4) := pk_rem (d := 4) (by omega) (by decide) (by decide)
  have h3 : (4 : Int32) - nI ((f + 2) % 4) = nI (4 - (f + 2) % 4) := pk_sub (a := 4) (b := (f + 2) % 4) (by omega)
  have h4 : nI (4 - (f + 2) % 4) - nI (4 - (f + 2) % 4) / 4 * 4 = nI ((4 - (f + 2) % 4) % 4) := pk_rem (d := 4) (by omega) (by decide) (by decide)
  rw [h1, h2, h3, h4, Int32.lt_iff_toInt_lt, nI_toInt (by omega)]
  have e4 : (4 : Int32).toInt = 4 := rfl
  omega
theorem ml_t {y i z : Int32} {n : Nat} (h4 : i < 4) (c : ¬ i < y) (e : z = y + 1) (hm : (i.toInt + 1 - y.toInt).toNat < n + 1) : (i.toInt + 1 - z.toInt).toNat < n := by
  rw [Int32.lt_iff_toInt_lt] at c h4
  have e4 : (4 : Int32).toInt = 4 := rfl
  have h0 := Int32.le_toInt y
  have e1 : (1 : Int32).toInt = 1 := rfl
  have h2 : (y + 1).toInt = y.toInt + 1 := by
    have h3 := ti_add (x := y) (y := 1) (by omega) (by omega)
    omega
  rw [e]
  omega

abbrev rm_Gp_writePlain : Room := { frames := 2, cells := 0, slots := 0, locals := 46 }
set_option maxHeartbeats 4000000 in
set_option maxRecDepth 100000 in
theorem c_Gp_writePlain (l : Launch) {D : gw_D} {Hs : Heap} {G : gw_G} (A : Nat → Nat → Nat) (pm : Nat → Nat) (cnt fd : Nat) (tt xt li : Nat → Int32) (la : Nat → Int64) (hC : cls D G A pm cnt fd tt xt li la) (i : Nat) (hi : i < 16) (n2 : Int32) : Met l y_Gp_writePlain (Cond.code y_Gp_writePlain b_Gp_writePlain 5 none :: tb) rm_Gp_writePlain (gw_Pc D Hs G [.ref (A 0 0), .ref (A 12 i), .int n2]) (gw_Qv D Hs (fun G1 => G1 = G)) 0 0 (gw_A Hs) := by
  refine gw_met (by decide) (Nat.le_of_ble_eq_true rfl) ?_
  intro p e s m args below meth c M hK hr hlo hin hI ls hl
  have hx := M.1
  have hb := M.2.1
  have hl : lv_has ls 5 [(0, .ref (A 0 0)), (1, .ref (A 12 i)), (2, .int n2)] := hl
  refine lv_aload_n hx hb d_Gp_writePlain_0 rfl (lv_at hl 0 rfl) ?_
  refine gw_get M hK hI hC.O i_Gp rfl 3 (by decide) f_Gp_28 rfl (Pv := fun v => v = .ref (A 3 0)) (fun x hx => ⟨_, _, hx, rfl, rfl⟩) d_Gp_writePlain_1 (fun v hv => ?_)
  subst hv
  refine gw_Vv (As := []) (rest := []) M hK hI (c_Ro_clear l (A 3 0) (A 9 0) 236 (by decide) hC.sent hC.sq) k_Ro_clear m_Gp_208 hC.sent (ci := 3) rfl (fun x hx => by obtain ⟨u1, u2, h_u1, h_u2, q9⟩ := hx; exact ⟨_, q9⟩) rfl hl.1 rfl (Nat.le_of_ble_eq_true rfl) ⟨rfl, rfl, ⟨Nat.le_of_ble_eq_true rfl, Nat.le_of_ble_eq_true rfl⟩, ⟨Nat.le_of_ble_eq_true rfl, Nat.le_of_ble_eq_true rfl⟩⟩ d_Gp_writePlain_4 (fun G9 H locs hw hI => ?_)
  rw [hw] at hI
  refine lv_aload_n hx hb d_Gp_writePlain_7 rfl (lv_at hl 0 rfl) ?_
  refine gw_get M hK hI hC.O i_Gp rfl 3 (by decide) f_Gp_28 rfl (Pv := fun v => v = .ref (A 3 0)) (fun x hx => ⟨_, _, hx, rfl, rfl⟩) d_Gp_writePlain_8 (fun v hv => ?_)
  subst hv
  refine lv_aload_n hx hb d_Gp_writePlain_11 rfl (lv_at hl 1 rfl) ?_
  refine gw_get M hK hI (hC.as hi) i_As rfl 2 (by decide) f_Gp_202 rfl (Pv := fun v => v = .int (tt i)) (fun x hx => by obtain ⟨u3, u5, u6, u9, v1, v2, q9⟩ := hx; exact ⟨_, _, q9, rfl, rfl⟩) d_Gp_writePlain_12 (fun v hv => ?_)
  subst hv
  refine lv_i2l hx hb d_Gp_writePlain_15 rfl ?_
  refine lv_iconst (v := 4) hx hb d_Gp_writePlain_16 (by decide) ?_
  refine gw_Vv (As := [.long (((tt i)).toInt64), .int 4]) (rest := []) M hK hI (c_Ro_appendNumber l (((tt i)).toInt64) 4 (by decide) (A 3 0) (A 9 0) 236 (by decide) hC.sent hC.sq) k_Ro_appendNumber m_Gp_118 hC.sent (ci := 3) rfl (fun x hx => by obtain ⟨u1, u2, h_u1, h_u2, q9⟩ := hx; exact ⟨_, q9⟩) rfl hl.1 rfl (Nat.le_of_ble_eq_true rfl) ⟨rfl, rfl, ⟨Nat.le_of_ble_eq_true rfl, Nat.le_of_ble_eq_true rfl⟩, ⟨Nat.le_of_ble_eq_true rfl, Nat.le_of_ble_eq_true rfl⟩⟩ d_Gp_writePlain_17 (fun G9 H locs hw hI => ?_)
  rw [hw] at hI
  refine lv_aload_n hx hb d_Gp_writePlain_20 rfl (lv_at hl 0 rfl) ?_
  refine gw_get M hK hI hC.O i_Gp rfl 3 (by decide) f_Gp_28 rfl (Pv := fun v => v = .ref (A 3 0)) (fun x hx => ⟨_, _, hx, rfl, rfl⟩) d_Gp_writePlain_21 (fun v hv => ?_)
  subst hv
  refine lv_aload_n hx hb d_Gp_writePlain_24 rfl (lv_at hl 1 rfl) ?_
  refine gw_get M hK hI (hC.as hi) i_As rfl 7 (by decide) f_Gp_76 rfl (Pv := fun v => v = .long (la i)) (fun x hx => by obtain ⟨u3, u5, u6, u9, v1, v2, q9⟩ := hx; exact ⟨_, _, q9, rfl, rfl⟩) d_Gp_writePlain_25 (fun v hv => ?_)
  subst hv
  refine lv_iconst (v := 4) hx hb d_Gp_writePlain_28 (by decide) ?_
  refine gw_Vv (As := [.long (la i), .int 4]) (rest := []) M hK hI (c_Ro_appendNumber l (la i) 4 (by decide) (A 3 0) (A 9 0) 236 (by decide) hC.sent hC.sq) k_Ro_appendNumber m_Gp_118 hC.sent (ci := 3) rfl (fun x hx => by obtain ⟨u1, u2, h_u1, h_u2, q9⟩ := hx; exact ⟨_, q9⟩) rfl hl.1 rfl (Nat.le_of_ble_eq_true rfl) ⟨rfl, rfl, ⟨Nat.le_of_ble_eq_true rfl, Nat.le_of_ble_eq_true rfl⟩, ⟨Nat.le_of_ble_eq_true rfl, Nat.le_of_ble_eq_true rfl⟩⟩ d_Gp_writePlain_29 (fun G9 H locs hw hI => ?_)
  rw [hw] at hI
  refine lv_aload_n hx hb d_Gp_writePlain_32 rfl (lv_at hl 0 rfl) ?_
  refine gw_get M hK hI hC.O i_Gp rfl 3 (by decide) f_Gp_28 rfl (Pv := fun v => v = .ref (A 3 0)) (fun x hx => ⟨_, _, hx, rfl, rfl⟩) d_Gp_writePlain_33 (fun v hv => ?_)
  subst hv
  refine lv_aload_n hx hb d_Gp_writePlain_36 rfl (lv_at hl 1 rfl) ?_
  refine gw_get M hK hI (hC.as hi) i_As rfl 7 (by decide) f_Gp_76 rfl (Pv := fun v => v = .long (la i)) (fun x hx => by obtain ⟨u3, u5, u6, u9, v1, v2, q9⟩ := hx; exact ⟨_, _, q9, rfl, rfl⟩) d_Gp_writePlain_37 (fun v hv => ?_)
  subst hv
  refine lv_bipush (v := 8) hx hb d_Gp_writePlain_40 (by decide) ?_
  refine gw_Vv (As := [.long (la i), .int 8]) (rest := []) M hK hI (c_Ro_appendNumber l (la i) 8 (by decide) (A 3 0) (A 9 0) 236 (by decide) hC.sent hC.sq) k_Ro_appendNumber m_Gp_118 hC.sent (ci := 3) rfl (fun x hx => by obtain ⟨u1, u2, h_u1, h_u2, q9⟩ := hx; exact ⟨_, q9⟩) rfl hl.1 rfl (Nat.le_of_ble_eq_true rfl) ⟨rfl, rfl, ⟨Nat.le_of_ble_eq_true rfl, Nat.le_of_ble_eq_true rfl⟩, ⟨Nat.le_of_ble_eq_true rfl, Nat.le_of_ble_eq_true rfl⟩⟩ d_Gp_writePlain_42 (fun G9 H locs hw hI => ?_)
  rw [hw] at hI
  refine lv_aload_n hx hb d_Gp_writePlain_45 rfl (lv_at hl 0 rfl) ?_
  refine gw_get M hK hI hC.O i_Gp rfl 3 (by decide) f_Gp_28 rfl (Pv := fun v => v = .ref (A 3 0)) (fun x hx => ⟨_, _, hx, rfl, rfl⟩) d_Gp_writePlain_46 (fun v hv => ?_)
  subst hv
  refine lv_aload_n hx hb d_Gp_writePlain_49 rfl (lv_at hl 0 rfl) ?_
  refine gw_get M hK hI hC.O i_Gp rfl 2 (by decide) f_Gp_24 rfl (Pv := fun v => v = .ref (A 2 0)) (fun x hx => ⟨_, _, hx, rfl, rfl⟩) d_Gp_writePlain_50 (fun v hv => ?_)
  subst hv
  refine lv_iconst (v := 0) hx hb d_Gp_writePlain_53 (by decide) ?_
  refine lv_aload_n hx hb d_Gp_writePlain_54 rfl (lv_at hl 0 rfl) ?_
  refine gw_get M hK hI hC.O i_Gp rfl 2 (by decide) f_Gp_24 rfl (Pv := fun v => v = .ref (A 2 0)) (fun x hx => ⟨_, _, hx, rfl, rfl⟩) d_Gp_writePlain_55 (fun v hv => ?_)
  subst hv
  refine gw_get M hK hI hC.fed i_Ro rfl 1 (by decide) f_Gp_87 rfl (Pv := fun v => v = .int (nI fd)) (fun x hx => ⟨_, _, hx, rfl, rfl⟩) d_Gp_writePlain_58 (fun v hv => ?_)
  subst hv
  refine gw_Vv (As := [.ref (A 2 0), .int 0, .int (nI fd)]) (rest := []) M hK hI (c_Ro_appendRow l 0 (nI fd) (A 2 0) (A 8 0) 200 (by decide) hC.fed (isRw_Fe hC.f200) hC.fq (A 3 0) (A 9 0) 236 (by decide) hC.sent hC.sq) k_Ro_appendRow m_Gp_211 hC.sent (ci := 3) rfl (fun x hx => by obtain ⟨u1, u2, h_u1, h_u2, q9⟩ := hx; exact ⟨_, q9⟩) rfl hl.1 rfl (Nat.le_of_ble_eq_true rfl) ⟨rfl, rfl, ⟨Nat.le_of_ble_eq_true rfl, Nat.le_of_ble_eq_true rfl⟩, ⟨Nat.le_of_ble_eq_true rfl, Nat.le_of_ble_eq_true rfl⟩⟩ d_Gp_writePlain_61 (fun G9 H locs hw hI => ?_)
  rw [hw] at hI
  refine lv_iconst (v := 4) hx hb d_Gp_writePlain_64 (by decide) ?_
  refine lv_aload_n hx hb d_Gp_writePlain_65 rfl (lv_at hl 0 rfl) ?_
  refine gw_get M hK hI hC.O i_Gp rfl 2 (by decide) f_Gp_24 rfl (Pv := fun v => v = .ref (A 2 0)) (fun x hx => ⟨_, _, hx, rfl, rfl⟩) d_Gp_writePlain_66 (fun v hv => ?_)
  subst hv
  refine gw_get M hK hI hC.fed i_Ro rfl 1 (by decide) f_Gp_87 rfl (Pv := fun v => v = .int (nI fd)) (fun x hx => ⟨_, _, hx, rfl, rfl⟩) d_Gp_writePlain_69 (fun v hv => ?_)
  subst hv
  refine lv_iconst (v := 2) hx hb d_Gp_writePlain_72 (by decide) ?_
  refine lv_iadd hx hb d_Gp_writePlain_73 ?_
  refine lv_iconst (v := 4) hx hb d_Gp_writePlain_74 (by decide) ?_
  refine lv_irem hx hb d_Gp_writePlain_75 (by decide) ?_
  refine lv_isub hx hb d_Gp_writePlain_76 ?_
  refine lv_iconst (v := 4) hx hb d_Gp_writePlain_77 (by decide) ?_
  refine lv_irem hx hb d_Gp_writePlain_78 (by decide) ?_
  refine lv_topi (fun x6 e_x6 => ?_)
  refine lv_istore_n (lv' := [(3, .int x6), (0, .ref (A 0 0)), (1, .ref (A 12 i)), (2, .int n2)]) hx hb d_Gp_writePlain_79 rfl hl (by decide) rfl (fun ls hl => ?_)
  have hy3 : x6 < 4 := by rw [e_x6]; exact fill_4 hC.f200
  obtain ⟨y3, hy3b⟩ : ∃ z, z = x6 := ⟨_, rfl⟩
  rw [← hy3b] at hl hy3
  refine lv_iconst (v := 1) hx hb d_Gp_writePlain_80 (by decide) ?_
  refine lv_istore (lv' := [(4, .int 1), (3, .int y3), (0, .ref (A 0 0)), (1, .ref (A 12 i)), (2, .int n2)]) hx hb d_Gp_writePlain_81 hl (by decide) rfl (fun ls hl => ?_)
  have L_83 : ∀ (n9 : Nat) (y4 : Int32) (H : Heap) (locs : List Loc) (ls : Array Slot), (y3.toInt + 1 - y4.toInt).toNat < n9 → gw_I D Hs G s.heap H locs → lv_has ls 5 [(4, .int y4), (3, .int y3), (0, .ref (A 0 0)), (1, .ref (A 12 i)), (2, .int n2)] → W p l e rm_Gp_writePlain s m args below meth c H locs 0 0 (MQ below (gw_Qv D Hs (fun G1 => G1 = G)) args s 0 0 (gw_A Hs)) (F0 m 83 ls []) := by
    intro n9
    induction n9 with
    | zero =>
      intro y4 H locs ls  hm hI hl
      exact absurd hm (Nat.not_lt_zero _)
    | succ n9 ih_83 =>
      intro y4 H locs ls  hm_83 hI hl
      refine lv_iload hx hb d_Gp_writePlain_83 (lv_at hl 0 rfl) ?_
      refine lv_iload_n hx hb d_Gp_writePlain_85 rfl (lv_at hl 1 rfl) ?_
      refine lv_icmp_gt (tgt := 104) hx hb d_Gp_writePlain_86 (by decide) (fun c_86 => ?_) (fun c_86 => ?_)
      · refine lv_aload_n hx hb d_Gp_writePlain_104 rfl (lv_at hl 2 rfl) ?_
        refine gw_get M hK hI hC.O i_Gp rfl 3 (by decide) f_Gp_28 rfl (Pv := fun v => v = .ref (A 3 0)) (fun x hx => ⟨_, _, hx, rfl, rfl⟩) d_Gp_writePlain_105 (fun v hv => ?_)
        subst hv
        refine lv_iload_n hx hb d_Gp_writePlain_108 rfl (lv_at hl 1 rfl) ?_
        refine gw_Vv (As := [.int y3]) (rest := []) M hK hI (c_Ro_append l y3 (A 3 0) (A 9 0) 236 (by decide) hC.sent hC.sq) k_Ro_append m_Gp_90 hC.sent (ci := 3) rfl (fun x hx => by obtain ⟨u1, u2, h_u1, h_u2, q9⟩ := hx; exact ⟨_, q9⟩) rfl hl.1 rfl (Nat.le_of_ble_eq_true rfl) ⟨rfl, rfl, ⟨Nat.le_of_ble_eq_true rfl, Nat.le_of_ble_eq_true rfl⟩, ⟨Nat.le_of_ble_eq_true rfl, Nat.le_of_ble_eq_true rfl⟩⟩ d_Gp_writePlain_109 (fun G9 H locs hw hI => ?_)
        rw [hw] at hI
        refine lv_aload_n hx hb d_Gp_writePlain_112 rfl (lv_at hl 2 rfl) ?_
        refine gw_get M hK hI hC.O i_Gp rfl 3 (by decide) f_Gp_28 rfl (Pv := fun v => v = .ref (A 3 0)) (fun x hx => ⟨_, _, hx, rfl, rfl⟩) d_Gp_writePlain_113 (fun v hv => ?_)
        subst hv
        refine lv_iload_n hx hb d_Gp_writePlain_116 rfl (lv_at hl 4 rfl) ?_
        refine gw_Vv (As := [.int n2]) (rest := []) M hK hI (c_Ro_append l n2 (A 3 0) (A 9 0) 236 (by decide) hC.sent hC.sq) k_Ro_append m_Gp_90 hC.sent (ci := 3) rfl (fun x hx => by obtain ⟨u1, u2, h_u1, h_u2, q9⟩ := hx; exact ⟨_, q9⟩) rfl hl.1 rfl (Nat.le_of_ble_eq_true rfl) ⟨rfl, rfl, ⟨Nat.le_of_ble_eq_true rfl, Nat.le_of_ble_eq_true rfl⟩, ⟨Nat.le_of_ble_eq_true rfl, Nat.le_of_ble_eq_true rfl⟩⟩ d_Gp_writePlain_117 (fun G9 H locs hw hI => ?_)
        rw [hw] at hI
        exact gw_vret M hr hlo hI d_Gp_writePlain_120 rfl
      · refine lv_aload_n hx hb d_Gp_writePlain_89 rfl (lv_at hl 2 rfl) ?_
        refine gw_get M hK hI hC.O i_Gp rfl 3 (by decide) f_Gp_28 rfl (Pv := fun v => v = .ref (A 3 0)) (fun x hx => ⟨_, _, hx, rfl, rfl⟩) d_Gp_writePlain_90 (fun v hv => ?_)
        subst hv
        refine lv_iload hx hb d_Gp_writePlain_93 (lv_at hl 0 rfl) ?_
        refine gw_Vv (As := [.int y4]) (rest := []) M hK hI (c_Ro_append l y4 (A 3 0) (A 9 0) 236 (by decide) hC.sent hC.sq) k_Ro_append m_Gp_90 hC.sent (ci := 3) rfl (fun x hx => by obtain ⟨u1, u2, h_u1, h_u2, q9⟩ := hx; exact ⟨_, q9⟩) rfl hl.1 rfl (Nat.le_of_ble_eq_true rfl) ⟨rfl, rfl, ⟨Nat.le_of_ble_eq_true rfl, Nat.le_of_ble_eq_true rfl⟩, ⟨Nat.le_of_ble_eq_true rfl, Nat.le_of_ble_eq_true rfl⟩⟩ d_Gp_writePlain_95 (fun G9 H locs hw hI => ?_)
        rw [hw] at hI
        obtain ⟨x10, e_x10⟩ : ∃ ww9 : Int32, ww9 = y4 + 1 := ⟨_, rfl⟩
        refine lv_iinc (v := x10) (lv' := [(4, .int x10), (3, .int y3), (0, .ref (A 0 0)), (1, .ref (A 12 i)), (2, .int n2)]) hx hb d_Gp_writePlain_98 hl (k := 0) rfl (by rw [e_x10]; rfl) (by decide) rfl (fun ls hl => ?_)
        refine lv_goto (tgt := 83) hx hb d_Gp_writePlain_101 (by decide) ?_
        exact ih_83 x10 _ _ _  (ml_t hy3 c_86 e_x10 hm_83) hI (lv_sub hl [0, 1, 2, 3, 4] rfl)
  exact L_83 _ 1 _ _ _  (Nat.lt_succ_self _) hI (lv_sub hl [0, 1, 2, 3, 4] rfl)

/-- sent's length less 16, and once more -/
theorem sa_1 {x y : Int32} (h : ∃ k, k ≤ 236 ∧ x = nI k) (e : y = x - 16) : -16 ≤ y.toInt ∧ y.toInt ≤ 220 := by
  obtain ⟨k, hk, rfl⟩ := h
  have h1 := nI_toInt (n := k) (by omega)
  have e16 : (16 : Int32).toInt = 16 := rfl
  rw [e, Int32.toInt_sub, h1, e16, Int.bmod_eq_of_le (by omega) (by omega)]
  omega
theorem sa_2 {y : Int32} (h : -16 ≤ y.toInt ∧ y.toInt ≤ 220) : -100 ≤ (y - 16).toInt ∧ (y - 16).toInt ≤ 300 := by
  have e16 : (16 : Int32).toInt = 16 := rfl
  rw [Int32.toInt_sub, e16, Int.bmod_eq_of_le (by omega) (by omega)]
  omega
theorem sa_3 {y : Int32} (h : -16 ≤ y.toInt ∧ y.toInt ≤ 220) : y.toInt + (8 : Int32).toInt < 2 ^ 31 ∧ 0 ≤ (8 : Int32).toInt ∧ -2 ^ 31 ≤ y.toInt := by
  have e8 : (8 : Int32).toInt = 8 := rfl
  omega
theorem sa_4 {y : Int32} (h : -16 ≤ y.toInt ∧ y.toInt ≤ 220) : (y + 8).toInt + (8 : Int32).toInt < 2 ^ 31 ∧ 0 ≤ (8 : Int32).toInt ∧ -2 ^ 31 ≤ (y + 8).toInt := by
  have e8 : (8 : Int32).toInt = 8 := rfl
  have h9 := ti_add (x := y) (y := 8) (by omega) (by omega)
  omega

theorem sa_1b {y : Int32} (h : -16 ≤ y.toInt ∧ y.toInt ≤ 220) : -100 ≤ y.toInt ∧ y.toInt ≤ 300 := by omega

abbrev rm_Gp_seal : Room := { frames := 5, cells := 0, slots := 0, locals := 129 }
set_option maxHeartbeats 4000000 in
set_option maxRecDepth 100000 in
theorem c_Gp_seal (l : Launch) {D : gw_D} {Hs : Heap} {G : gw_G} (A : Nat → Nat → Nat) (pm : Nat → Nat) (cnt fd : Nat) (tt xt li : Nat → Int32) (la : Nat → Int64) (hC : cls D G A pm cnt fd tt xt li la) (n1 n2 : Int32) (kp : Nat) (hkp : isPl (fun j => tt (pm j)) cnt n1 kp) (hat : kp < cnt ∧ tt (pm kp) = n1)  (hby : okB n2) : Met l y_Gp_seal (Cond.code y_Gp_seal b_Gp_seal 5 (some .int) :: tb) rm_Gp_seal (gw_Pc D Hs G [.ref (A 0 0), .int n1, .int n2]) (gw_Qi D Hs (fun _ G1 => ((gre (xt (pm kp)) ≤ la (pm kp) ∨ li (pm kp) < nI fd) ∧ G1 = G) ∨ (¬ (gre (xt (pm kp)) ≤ la (pm kp) ∨ li (pm kp) < nI fd) ∧ G1 = gw_up G (A 12 (pm kp)) (kAp (A 13 (pm kp)) (A 15 (pm kp)) (tt (pm kp)) (xt (pm kp)) (la (pm kp) + 1) (li (pm kp) - nI fd))))) 0 0 (gw_A Hs) := by
  refine gw_met (by decide) (Nat.le_of_ble_eq_true rfl) ?_
  intro p e s m args below meth c M hK hr hlo hin hI ls hl
  have hx := M.1
  have hb := M.2.1
  have hl : lv_has ls 5 [(0, .ref (A 0 0)), (1, .int n1), (2, .int n2)] := hl
  have hi : pm kp < 16 := hC.pmb (Nat.lt_of_lt_of_le hat.1 hC.c16)
  have hI0 := hI
  refine lv_aload_n hx hb d_Gp_seal_0 rfl (lv_at hl 0 rfl) ?_
  refine lv_iload_n hx hb d_Gp_seal_1 rfl (lv_at hl 1 rfl) ?_
  refine gp_Vr (As := [.int n1]) (rest := []) M hK hI (c_Gp_known l A pm cnt fd tt xt li la hC n1 kp hkp hat) k_Gp_known m_Gp_72 hC.O (ci := 5) rfl (fun x hx => ⟨_, hx⟩) rfl hl.1 rfl (Nat.le_of_ble_eq_true rfl) ⟨rfl, rfl, ⟨Nat.le_of_ble_eq_true rfl, Nat.le_of_ble_eq_true rfl⟩, ⟨Nat.le_of_ble_eq_true rfl, Nat.le_of_ble_eq_true rfl⟩⟩ d_Gp_seal_2 (fun x1 h_x1 => ?_)
  subst h_x1
  refine lv_astore_n (lv' := [(3, .ref (A 12 (pm kp))), (0, .ref (A 0 0)), (1, .int n1), (2, .int n2)]) hx hb d_Gp_seal_5 rfl hl (by decide) rfl (fun ls hl => ?_)
  refine lv_iload_n hx hb d_Gp_seal_6 rfl (lv_at hl 3 rfl) ?_
  refine gp_S (As := [.int n2]) (rest := []) M hK hI (c_Gp_isByte l n2) k_Gp_isByte m_Gp_96 rfl hl.1 rfl (Nat.le_of_ble_eq_true rfl) ⟨rfl, rfl, ⟨Nat.le_of_ble_eq_true rfl, Nat.le_of_ble_eq_true rfl⟩, ⟨Nat.le_of_ble_eq_true rfl, Nat.le_of_ble_eq_true rfl⟩⟩ d_Gp_seal_7 (fun x2 h_x2 => ?_)
  have h_x2 := h_x2.1 hby
  subst h_x2
  refine lv_if_ne (tgt := 21) hx hb d_Gp_seal_10 (by decide) (fun c_10 => ?_) (fun q9 => absurd q9 (by decide))
  refine lv_aload_n hx hb d_Gp_seal_21 rfl (lv_at hl 0 rfl) ?_
  refine gw_get M hK hI (hC.as hi) i_As rfl 7 (by decide) f_Gp_76 rfl (Pv := fun v => v = .long (la (pm kp))) (fun x hx => by obtain ⟨u3, u5, u6, u9, v1, v2, q9⟩ := hx; exact ⟨_, _, q9, rfl, rfl⟩) d_Gp_seal_22 (fun v hv => ?_)
  subst hv
  refine lv_aload_n hx hb d_Gp_seal_25 rfl (lv_at hl 0 rfl) ?_
  refine gp_Vl (As := []) (rest := [.long (la (pm kp))]) M hK hI (c_As_greatestp l (A 12 (pm kp)) (A 13 (pm kp)) (A 15 (pm kp)) (tt (pm kp)) (xt (pm kp)) (la (pm kp)) (li (pm kp)) (hC.as hi)) k_As_greatest m_Gp_80 (hC.as hi) (ci := 0) rfl (fun x hx => by obtain ⟨u3, u5, u6, u9, v1, v2, q9⟩ := hx; exact ⟨_, q9⟩) rfl hl.1 rfl (Nat.le_of_ble_eq_true rfl) ⟨rfl, rfl, ⟨Nat.le_of_ble_eq_true rfl, Nat.le_of_ble_eq_true rfl⟩, ⟨Nat.le_of_ble_eq_true rfl, Nat.le_of_ble_eq_true rfl⟩⟩ d_Gp_seal_26 (fun x3 h_x3 => ?_)
  subst h_x3
  refine W.lcmp hx hb d_Gp_seal_29 ?_
  refine lv_if_ge (tgt := 47) hx hb d_Gp_seal_30 (by decide) (fun c_30 => ?_) (fun c_30 => ?_)
  · have hw1 := c_30
    refine lv_iconst (v := (-1)) hx hb d_Gp_seal_47 (by decide) ?_
    exact gw_iret M hr hlo hI d_Gp_seal_48 (Or.inl ⟨(Or.inl ((lg_cmp_ge _ _).mp c_30)), rfl⟩)
  · refine lv_aload_n hx hb d_Gp_seal_33 rfl (lv_at hl 1 rfl) ?_
    refine gw_get M hK hI hC.O i_Gp rfl 2 (by decide) f_Gp_24 rfl (Pv := fun v => v = .ref (A 2 0)) (fun x hx => ⟨_, _, hx, rfl, rfl⟩) d_Gp_seal_34 (fun v hv => ?_)
    subst hv
    refine gw_get M hK hI hC.fed i_Ro rfl 1 (by decide) f_Gp_87 rfl (Pv := fun v => v = .int (nI fd)) (fun x hx => ⟨_, _, hx, rfl, rfl⟩) d_Gp_seal_37 (fun v hv => ?_)
    subst hv
    refine lv_aload_n hx hb d_Gp_seal_40 rfl (lv_at hl 0 rfl) ?_
    refine gw_get M hK hI (hC.as hi) i_As rfl 8 (by decide) f_Gp_84 rfl (Pv := fun v => v = .int (li (pm kp))) (fun x hx => by obtain ⟨u3, u5, u6, u9, v1, v2, q9⟩ := hx; exact ⟨_, _, q9, rfl, rfl⟩) d_Gp_seal_41 (fun v hv => ?_)
    subst hv
    refine lv_icmp_le (tgt := 49) hx hb d_Gp_seal_44 (by decide) (fun c_44 => ?_) (fun c_44 => ?_)
    · have hno : ¬ (gre (xt (pm kp)) ≤ la (pm kp) ∨ li (pm kp) < nI fd) := fun h9 => h9.elim (fun h8 => c_30 ((lg_cmp_ge _ _).mpr h8)) (fun h8 => absurd c_44 (Int32.not_le.mpr h8))
      refine lv_aload_n hx hb d_Gp_seal_49 rfl (lv_at hl 0 rfl) ?_
      refine lv_dup hx hb d_Gp_seal_50 rfl ?_
      refine gw_get M hK hI (hC.as hi) i_As rfl 7 (by decide) f_Gp_76 rfl (Pv := fun v => v = .long (la (pm kp))) (fun x hx => by obtain ⟨u3, u5, u6, u9, v1, v2, q9⟩ := hx; exact ⟨_, _, q9, rfl, rfl⟩) d_Gp_seal_51 (fun v hv => ?_)
      subst hv
      refine lv_lconst (v := 1) hx hb d_Gp_seal_54 (by decide) ?_
      refine lv_ladd hx hb d_Gp_seal_55 ?_
      refine lv_topl (fun x4 e_x4 => ?_)
      refine gw_put M hK hI (hC.as hi) i_As t_As tk_As n_As rfl 7 (by decide) f_Gp_76 rfl rfl rfl (kAp (A 13 (pm kp)) (A 15 (pm kp)) (tt (pm kp)) (xt (pm kp)) x4 (li (pm kp))) (fun x hx => by obtain ⟨u3, u5, u6, u9, v1, v2, q9⟩ := hx; exact ⟨_, q9, Nat.le_of_ble_eq_true rfl, ⟨u3, u5, u6, u9, v1, v2, rfl⟩⟩) d_Gp_seal_56 (fun H locs hI => ?_)
      obtain ⟨G5, hE_G5⟩ : ∃ z9, gw_up G (A 12 (pm kp)) (kAp (A 13 (pm kp)) (A 15 (pm kp)) (tt (pm kp)) (xt (pm kp)) x4 (li (pm kp))) = z9 := ⟨_, rfl⟩
      rw [hE_G5] at hI
      have hG7 : G5 (A 12 (pm kp)) = some (kAp (A 13 (pm kp)) (A 15 (pm kp)) (tt (pm kp)) (xt (pm kp)) x4 (li (pm kp))) := by rw [← hE_G5]; exact gw_up_s
      have hs6 : gw_fr (fun b => b = (A 12 (pm kp))) G G5 := by rw [← hE_G5]; exact gw_fr.up rfl
      refine lv_aload_n hx hb d_Gp_seal_59 rfl (lv_at hl 0 rfl) ?_
      refine lv_dup hx hb d_Gp_seal_60 rfl ?_
      refine gw_get M hK hI hG7 i_As rfl 8 (by decide) f_Gp_84 rfl (Pv := fun v => v = .int (li (pm kp))) (fun x hx => by obtain ⟨u3, u5, u6, u9, v1, v2, q9⟩ := hx; exact ⟨_, _, q9, rfl, rfl⟩) d_Gp_seal_61 (fun v hv => ?_)
      subst hv
      refine lv_aload_n hx hb d_Gp_seal_64 rfl (lv_at hl 1 rfl) ?_
      have hG8 : G5 (A 0 0) = some (kx (.inr (5, [.ref (A 1 0), .int (nI cnt), .ref (A 2 0), .ref (A 3 0), .ref (A 4 0), .ref (A 5 0), .ref (A 6 0), .ref (A 7 0)]))) := (hs6 (A 0 0) _ hC.O (gw_nec (u := 5) (v := 0) hI0 hC.O (hC.as hi) (fun x hx => (congrArg gt (show x = _ from hx)).trans rfl) (fun x hx => by obtain ⟨u3, u5, u6, u9, v1, v2, q9⟩ := hx; rw [q9]; rfl) (by decide)))
      refine gw_get M hK hI hG8 i_Gp rfl 2 (by decide) f_Gp_24 rfl (Pv := fun v => v = .ref (A 2 0)) (fun x hx => ⟨_, _, hx, rfl, rfl⟩) d_Gp_seal_65 (fun v hv => ?_)
      subst hv
      have hG9 : G5 (A 2 0) = some (kx (.inr (3, [.ref (A 8 0), .int (nI fd), .int 0]))) := (hs6 (A 2 0) _ hC.fed (gw_nec (u := 3) (v := 0) hI0 hC.fed (hC.as hi) (fun x hx => (congrArg gt (show x = _ from hx)).trans rfl) (fun x hx => by obtain ⟨u3, u5, u6, u9, v1, v2, q9⟩ := hx; rw [q9]; rfl) (by decide)))
      refine gw_get M hK hI hG9 i_Ro rfl 1 (by decide) f_Gp_87 rfl (Pv := fun v => v = .int (nI fd)) (fun x hx => ⟨_, _, hx, rfl, rfl⟩) d_Gp_seal_68 (fun v hv => ?_)
      subst hv
      refine lv_isub hx hb d_Gp_seal_71 ?_
      refine lv_topi (fun x10 e_x10 => ?_)
      refine gw_put M hK hI hG7 i_As t_As tk_As n_As rfl 8 (by decide) f_Gp_84 rfl rfl rfl (kAp (A 13 (pm kp)) (A 15 (pm kp)) (tt (pm kp)) (xt (pm kp)) x4 x10) (fun x hx => by obtain ⟨u3, u5, u6, u9, v1, v2, q9⟩ := hx; exact ⟨_, q9, Nat.le_of_ble_eq_true rfl, ⟨u3, u5, u6, u9, v1, v2, rfl⟩⟩) d_Gp_seal_72 (fun H locs hI => ?_)
      obtain ⟨G11, hE_G11⟩ : ∃ z9, gw_up G5 (A 12 (pm kp)) (kAp (A 13 (pm kp)) (A 15 (pm kp)) (tt (pm kp)) (xt (pm kp)) x4 x10) = z9 := ⟨_, rfl⟩
      rw [hE_G11] at hI
      have hG13 : G11 (A 12 (pm kp)) = some (kAp (A 13 (pm kp)) (A 15 (pm kp)) (tt (pm kp)) (xt (pm kp)) x4 x10) := by rw [← hE_G11]; exact gw_up_s
      have hs12 : gw_fr (fun b => b = (A 12 (pm kp))) G5 G11 := by rw [← hE_G11]; exact gw_fr.up rfl
      have hG9 : G11 = gw_up G (A 12 (pm kp)) (kAp (A 13 (pm kp)) (A 15 (pm kp)) (tt (pm kp)) (xt (pm kp)) (la (pm kp) + 1) (li (pm kp) - nI fd)) := by rw [← hE_G11, ← hE_G5]; simp only [gw_up_up, e_x4, e_x10]
      have hC9 := hC.asup hI0 hi (tt (pm kp)) (xt (pm kp)) (li (pm kp) - nI fd) (la (pm kp) + 1) (hC.p.2.2.2.2 _ hi)
      rw [← hG9] at hC9
      rw [fup_id, fup_id] at hC9
      obtain ⟨li2, hli2⟩ : ∃ z, z = fup li (pm kp) (li (pm kp) - nI fd) := ⟨_, rfl⟩
      obtain ⟨la2, hla2⟩ : ∃ z, z = fup la (pm kp) (la (pm kp) + 1) := ⟨_, rfl⟩
      rw [← hli2, ← hla2] at hC9
      refine lv_aload_n hx hb d_Gp_seal_75 rfl (lv_at hl 1 rfl) ?_
      refine lv_aload_n hx hb d_Gp_seal_76 rfl (lv_at hl 0 rfl) ?_
      refine lv_iload_n hx hb d_Gp_seal_77 rfl (lv_at hl 3 rfl) ?_
      refine gw_Vv (As := [.ref (A 12 (pm kp)), .int n2]) (rest := []) M hK hI (c_Gp_writePlain l A pm cnt fd tt xt li2 la2 hC9 (pm kp) hi n2) k_Gp_writePlain m_Gp_99 hC9.O (ci := 5) rfl (fun x hx => ⟨_, hx⟩) rfl hl.1 rfl (Nat.le_of_ble_eq_true rfl) ⟨rfl, rfl, ⟨Nat.le_of_ble_eq_true rfl, Nat.le_of_ble_eq_true rfl⟩, ⟨Nat.le_of_ble_eq_true rfl, Nat.le_of_ble_eq_true rfl⟩⟩ d_Gp_seal_78 (fun G9 H locs hw hI => ?_)
      rw [hw] at hI
      refine lv_aload_n hx hb d_Gp_seal_81 rfl (lv_at hl 1 rfl) ?_
      refine gw_get M hK hI hC9.O i_Gp rfl 3 (by decide) f_Gp_28 rfl (Pv := fun v => v = .ref (A 3 0)) (fun x hx => ⟨_, _, hx, rfl, rfl⟩) d_Gp_seal_82 (fun v hv => ?_)
      subst hv
      refine gw_get M hK hI hC9.sent i_Ro rfl 1 (by decide) f_Gp_87 rfl (Pv := fun v => ∃ x9 : Int32, v = .int x9 ∧ (∃ k, k ≤ 236 ∧ x9 = nI k)) (fun x hx => by obtain ⟨u1, u2, h_u1, h_u2, q9⟩ := hx; exact ⟨_, _, q9, rfl, _, rfl, h_u1⟩) d_Gp_seal_85 (fun v hv => ?_)
      obtain ⟨x15, rfl, h_x15⟩ := hv
      refine lv_bipush (v := 16) hx hb d_Gp_seal_88 (by decide) ?_
      refine lv_isub hx hb d_Gp_seal_90 ?_
      refine lv_topi (fun x16 e_x16 => ?_)
      refine lv_istore (lv' := [(4, .int x16), (3, .ref (A 12 (pm kp))), (0, .ref (A 0 0)), (1, .int n1), (2, .int n2)]) hx hb d_Gp_seal_91 hl (by decide) rfl (fun ls hl => ?_)
      have hb9 := sa_1 h_x15 e_x16
      refine lv_aload_n hx hb d_Gp_seal_93 rfl (lv_at hl 1 rfl) ?_
      refine lv_aload_n hx hb d_Gp_seal_94 rfl (lv_at hl 2 rfl) ?_
      refine gw_get M hK hI hC9.O i_Gp rfl 3 (by decide) f_Gp_28 rfl (Pv := fun v => v = .ref (A 3 0)) (fun x hx => ⟨_, _, hx, rfl, rfl⟩) d_Gp_seal_95 (fun v hv => ?_)
      subst hv
      refine lv_bipush (v := 16) hx hb d_Gp_seal_98 (by decide) ?_
      refine lv_aload_n hx hb d_Gp_seal_100 rfl (lv_at hl 1 rfl) ?_
      refine gw_get M hK hI (hC9.as hi) i_As rfl 7 (by decide) f_Gp_76 rfl (Pv := fun v => v = .long (la2 (pm kp))) (fun x hx => by obtain ⟨u3, u5, u6, u9, v1, v2, q9⟩ := hx; exact ⟨_, _, q9, rfl, rfl⟩) d_Gp_seal_101 (fun v hv => ?_)
      subst hv
      refine gw_Vv (As := [.ref (A 3 0), .int 16, .long (la2 (pm kp))]) (rest := []) M hK hI (c_As_mask l 16 (by decide) (la2 (pm kp)) (A 3 0) (A 9 0) 236 (by decide) hC9.sent hC9.sq (A 12 (pm kp)) (A 13 (pm kp)) (A 15 (pm kp)) (tt (pm kp)) (xt (pm kp)) (la2 (pm kp)) (li2 (pm kp)) (hC9.as hi) (A 14 (pm kp)) (hC9.ci hi) (hC9.wo hi)) k_As_mask m_Gp_103 (hC9.as hi) (ci := 0) rfl (fun x hx => by obtain ⟨u3, u5, u6, u9, v1, v2, q9⟩ := hx; exact ⟨_, q9⟩) rfl hl.1 rfl (Nat.le_of_ble_eq_true rfl) ⟨rfl, rfl, ⟨Nat.le_of_ble_eq_true rfl, Nat.le_of_ble_eq_true rfl⟩, ⟨Nat.le_of_ble_eq_true rfl, Nat.le_of_ble_eq_true rfl⟩⟩ d_Gp_seal_104 (fun G9 H locs hw hI => ?_)
      rw [hw] at hI
      refine lv_aload_n hx hb d_Gp_seal_107 rfl (lv_at hl 2 rfl) ?_
      refine gw_get M hK hI hC9.O i_Gp rfl 7 (by decide) f_Gp_44 rfl (Pv := fun v => v = .ref (A 7 0)) (fun x hx => ⟨_, _, hx, rfl, rfl⟩) d_Gp_seal_108 (fun v hv => ?_)
      subst hv
      refine lv_aload_n hx hb d_Gp_seal_111 rfl (lv_at hl 1 rfl) ?_
      refine lv_aload_n hx hb d_Gp_seal_112 rfl (lv_at hl 1 rfl) ?_
      refine gw_get M hK hI (hC9.as hi) i_As rfl 7 (by decide) f_Gp_76 rfl (Pv := fun v => v = .long (la2 (pm kp))) (fun x hx => by obtain ⟨u3, u5, u6, u9, v1, v2, q9⟩ := hx; exact ⟨_, _, q9, rfl, rfl⟩) d_Gp_seal_113 (fun v hv => ?_)
      subst hv
      refine lv_aload_n hx hb d_Gp_seal_116 rfl (lv_at hl 2 rfl) ?_
      refine gw_get M hK hI hC9.O i_Gp rfl 3 (by decide) f_Gp_28 rfl (Pv := fun v => v = .ref (A 3 0)) (fun x hx => ⟨_, _, hx, rfl, rfl⟩) d_Gp_seal_117 (fun v hv => ?_)
      subst hv
      refine lv_iload hx hb d_Gp_seal_120 (lv_at hl 0 rfl) ?_
      refine gw_Vv (As := [.ref (A 12 (pm kp)), .long (la2 (pm kp)), .ref (A 3 0), .int x16]) (rest := []) M hK hI (c_Ch_ofBody l (A 7 0) (la2 (pm kp)) x16 (sa_1b hb9) hC9.check (A 3 0) (A 9 0) 236 (by decide) hC9.sent isRw_Ro hC9.sq (A 12 (pm kp)) (A 13 (pm kp)) (A 15 (pm kp)) (tt (pm kp)) (xt (pm kp)) (la2 (pm kp)) (li2 (pm kp)) (hC9.as hi)) k_Ch_ofBody m_Gp_107 hC9.check (ci := 1) rfl (fun x hx => by obtain ⟨u1, u2, q9⟩ := hx; exact ⟨_, q9⟩) rfl hl.1 rfl (Nat.le_of_ble_eq_true rfl) ⟨rfl, rfl, ⟨Nat.le_of_ble_eq_true rfl, Nat.le_of_ble_eq_true rfl⟩, ⟨Nat.le_of_ble_eq_true rfl, Nat.le_of_ble_eq_true rfl⟩⟩ d_Gp_seal_122 (fun G9 H locs hw hI => ?_)
      rw [hw] at hI
      refine lv_aload_n hx hb d_Gp_seal_125 rfl (lv_at hl 1 rfl) ?_
      refine lv_aload_n hx hb d_Gp_seal_126 rfl (lv_at hl 2 rfl) ?_
      refine gw_get M hK hI hC9.O i_Gp rfl 7 (by decide) f_Gp_44 rfl (Pv := fun v => v = .ref (A 7 0)) (fun x hx => ⟨_, _, hx, rfl, rfl⟩) d_Gp_seal_127 (fun v hv => ?_)
      subst hv
      refine lv_aload_n hx hb d_Gp_seal_130 rfl (lv_at hl 1 rfl) ?_
      refine gw_get M hK hI (hC9.as hi) i_As rfl 7 (by decide) f_Gp_76 rfl (Pv := fun v => v = .long (la2 (pm kp))) (fun x hx => by obtain ⟨u3, u5, u6, u9, v1, v2, q9⟩ := hx; exact ⟨_, _, q9, rfl, rfl⟩) d_Gp_seal_131 (fun v hv => ?_)
      subst hv
      refine gw_Vv (As := [.ref (A 7 0), .long (la2 (pm kp))]) (rest := []) M hK hI (c_As_maskCheck l (A 7 0) (la2 (pm kp)) hC9.check (A 12 (pm kp)) (A 13 (pm kp)) (A 15 (pm kp)) (tt (pm kp)) (xt (pm kp)) (la2 (pm kp)) (li2 (pm kp)) (hC9.as hi) (A 14 (pm kp)) (hC9.ci hi) (hC9.wo hi)) k_As_maskCheck m_Gp_111 (hC9.as hi) (ci := 0) rfl (fun x hx => by obtain ⟨u3, u5, u6, u9, v1, v2, q9⟩ := hx; exact ⟨_, q9⟩) rfl hl.1 rfl (Nat.le_of_ble_eq_true rfl) ⟨rfl, rfl, ⟨Nat.le_of_ble_eq_true rfl, Nat.le_of_ble_eq_true rfl⟩, ⟨Nat.le_of_ble_eq_true rfl, Nat.le_of_ble_eq_true rfl⟩⟩ d_Gp_seal_134 (fun G9 H locs hw hI => ?_)
      rw [hw] at hI
      refine lv_aload_n hx hb d_Gp_seal_137 rfl (lv_at hl 2 rfl) ?_
      refine gw_get M hK hI hC9.O i_Gp rfl 3 (by decide) f_Gp_28 rfl (Pv := fun v => v = .ref (A 3 0)) (fun x hx => ⟨_, _, hx, rfl, rfl⟩) d_Gp_seal_138 (fun v hv => ?_)
      subst hv
      refine lv_aload_n hx hb d_Gp_seal_141 rfl (lv_at hl 2 rfl) ?_
      refine gw_get M hK hI hC9.O i_Gp rfl 7 (by decide) f_Gp_44 rfl (Pv := fun v => v = .ref (A 7 0)) (fun x hx => ⟨_, _, hx, rfl, rfl⟩) d_Gp_seal_142 (fun v hv => ?_)
      subst hv
      refine gw_get M hK hI hC9.check i_Ch rfl 0 (by decide) f_Gp_115 rfl (Pv := fun v => ∃ x9 : Int64, v = .long x9) (fun x hx => by obtain ⟨u1, u2, q9⟩ := hx; exact ⟨_, _, q9, rfl, _, rfl⟩) d_Gp_seal_145 (fun v hv => ?_)
      obtain ⟨x20, rfl⟩ := hv
      refine lv_bipush (v := 8) hx hb d_Gp_seal_148 (by decide) ?_
      refine gw_Vv (As := [.long x20, .int 8]) (rest := []) M hK hI (c_Ro_appendNumber l x20 8 (by decide) (A 3 0) (A 9 0) 236 (by decide) hC9.sent hC9.sq) k_Ro_appendNumber m_Gp_118 hC9.sent (ci := 3) rfl (fun x hx => by obtain ⟨u1, u2, h_u1, h_u2, q9⟩ := hx; exact ⟨_, q9⟩) rfl hl.1 rfl (Nat.le_of_ble_eq_true rfl) ⟨rfl, rfl, ⟨Nat.le_of_ble_eq_true rfl, Nat.le_of_ble_eq_true rfl⟩, ⟨Nat.le_of_ble_eq_true rfl, Nat.le_of_ble_eq_true rfl⟩⟩ d_Gp_seal_150 (fun G9 H locs hw hI => ?_)
      rw [hw] at hI
      refine lv_aload_n hx hb d_Gp_seal_153 rfl (lv_at hl 2 rfl) ?_
      refine gw_get M hK hI hC9.O i_Gp rfl 3 (by decide) f_Gp_28 rfl (Pv := fun v => v = .ref (A 3 0)) (fun x hx => ⟨_, _, hx, rfl, rfl⟩) d_Gp_seal_154 (fun v hv => ?_)
      subst hv
      refine lv_aload_n hx hb d_Gp_seal_157 rfl (lv_at hl 2 rfl) ?_
      refine gw_get M hK hI hC9.O i_Gp rfl 7 (by decide) f_Gp_44 rfl (Pv := fun v => v = .ref (A 7 0)) (fun x hx => ⟨_, _, hx, rfl, rfl⟩) d_Gp_seal_158 (fun v hv => ?_)
      subst hv
      refine gw_get M hK hI hC9.check i_Ch rfl 1 (by decide) f_Gp_122 rfl (Pv := fun v => ∃ x9 : Int64, v = .long x9) (fun x hx => by obtain ⟨u1, u2, q9⟩ := hx; exact ⟨_, _, q9, rfl, _, rfl⟩) d_Gp_seal_161 (fun v hv => ?_)
      obtain ⟨x22, rfl⟩ := hv
      refine lv_bipush (v := 8) hx hb d_Gp_seal_164 (by decide) ?_
      refine gw_Vv (As := [.long x22, .int 8]) (rest := []) M hK hI (c_Ro_appendNumber l x22 8 (by decide) (A 3 0) (A 9 0) 236 (by decide) hC9.sent hC9.sq) k_Ro_appendNumber m_Gp_118 hC9.sent (ci := 3) rfl (fun x hx => by obtain ⟨u1, u2, h_u1, h_u2, q9⟩ := hx; exact ⟨_, q9⟩) rfl hl.1 rfl (Nat.le_of_ble_eq_true rfl) ⟨rfl, rfl, ⟨Nat.le_of_ble_eq_true rfl, Nat.le_of_ble_eq_true rfl⟩, ⟨Nat.le_of_ble_eq_true rfl, Nat.le_of_ble_eq_true rfl⟩⟩ d_Gp_seal_166 (fun G9 H locs hw hI => ?_)
      rw [hw] at hI
      refine lv_aload_n hx hb d_Gp_seal_169 rfl (lv_at hl 2 rfl) ?_
      refine gw_get M hK hI hC9.O i_Gp rfl 3 (by decide) f_Gp_28 rfl (Pv := fun v => v = .ref (A 3 0)) (fun x hx => ⟨_, _, hx, rfl, rfl⟩) d_Gp_seal_170 (fun v hv => ?_)
      subst hv
      refine gw_get M hK hI hC9.sent i_Ro rfl 1 (by decide) f_Gp_87 rfl (Pv := fun v => ∃ x9 : Int32, v = .int x9 ∧ (∃ k, k ≤ 236 ∧ x9 = nI k)) (fun x hx => by obtain ⟨u1, u2, h_u1, h_u2, q9⟩ := hx; exact ⟨_, _, q9, rfl, _, rfl, h_u1⟩) d_Gp_seal_173 (fun v hv => ?_)
      obtain ⟨x24, rfl, h_x24⟩ := hv
      exact gw_iret M hr hlo hI d_Gp_seal_176 (Or.inr ⟨hno, hG9⟩)
    · have hw1 := c_44
      refine lv_iconst (v := (-1)) hx hb d_Gp_seal_47 (by decide) ?_
      exact gw_iret M hr hlo hI d_Gp_seal_48 (Or.inl ⟨(Or.inr (Int32.not_le.mp c_44)), rfl⟩)

abbrev rm_Gp_isSealRight : Room := { frames := 5, cells := 0, slots := 0, locals := 122 }
set_option maxHeartbeats 4000000 in
set_option maxRecDepth 100000 in
theorem c_Gp_isSealRight (l : Launch) {D : gw_D} {Hs : Heap} {G : gw_G} (A : Nat → Nat → Nat) (pm : Nat → Nat) (cnt fd : Nat) (tt xt li : Nat → Int32) (la : Nat → Int64) (hC : cls D G A pm cnt fd tt xt li la) (i : Nat) (hi : i < 16) (i0 : Int64) : Met l y_Gp_isSealRight (Cond.code y_Gp_isSealRight b_Gp_isSealRight 5 (some .boolean) :: tb) rm_Gp_isSealRight (gw_Pc D Hs G [.ref (A 0 0), .ref (A 12 i), .long i0]) (gw_Qi D Hs (fun _ G1 => G1 = G)) 0 0 (gw_A Hs) := by
  refine gw_met (by decide) (Nat.le_of_ble_eq_true rfl) ?_
  intro p e s m args below meth c M hK hr hlo hin hI ls hl
  have hx := M.1
  have hb := M.2.1
  have hl : lv_has ls 5 [(0, .ref (A 0 0)), (1, .ref (A 12 i)), (2, .long i0)] := hl
  refine lv_aload_n hx hb d_Gp_isSealRight_0 rfl (lv_at hl 0 rfl) ?_
  refine gw_get M hK hI hC.O i_Gp rfl 3 (by decide) f_Gp_28 rfl (Pv := fun v => v = .ref (A 3 0)) (fun x hx => ⟨_, _, hx, rfl, rfl⟩) d_Gp_isSealRight_1 (fun v hv => ?_)
  subst hv
  refine gw_get M hK hI hC.sent i_Ro rfl 1 (by decide) f_Gp_87 rfl (Pv := fun v => ∃ x9 : Int32, v = .int x9 ∧ (∃ k, k ≤ 236 ∧ x9 = nI k)) (fun x hx => by obtain ⟨u1, u2, h_u1, h_u2, q9⟩ := hx; exact ⟨_, _, q9, rfl, _, rfl, h_u1⟩) d_Gp_isSealRight_4 (fun v hv => ?_)
  obtain ⟨x1, rfl, h_x1⟩ := hv
  refine lv_bipush (v := 16) hx hb d_Gp_isSealRight_7 (by decide) ?_
  refine lv_isub hx hb d_Gp_isSealRight_9 ?_
  refine lv_topi (fun x2 e_x2 => ?_)
  refine lv_istore (lv' := [(4, .int x2), (0, .ref (A 0 0)), (1, .ref (A 12 i)), (2, .long i0)]) hx hb d_Gp_isSealRight_10 hl (by decide) rfl (fun ls hl => ?_)
  have hb9 := sa_1 h_x1 e_x2
  refine lv_aload_n hx hb d_Gp_isSealRight_12 rfl (lv_at hl 1 rfl) ?_
  refine gw_get M hK hI hC.O i_Gp rfl 7 (by decide) f_Gp_44 rfl (Pv := fun v => v = .ref (A 7 0)) (fun x hx => ⟨_, _, hx, rfl, rfl⟩) d_Gp_isSealRight_13 (fun v hv => ?_)
  subst hv
  refine lv_aload_n hx hb d_Gp_isSealRight_16 rfl (lv_at hl 2 rfl) ?_
  refine lv_lload_n hx hb d_Gp_isSealRight_17 rfl (lv_at hl 3 rfl) ?_
  refine lv_aload_n hx hb d_Gp_isSealRight_18 rfl (lv_at hl 1 rfl) ?_
  refine gw_get M hK hI hC.O i_Gp rfl 3 (by decide) f_Gp_28 rfl (Pv := fun v => v = .ref (A 3 0)) (fun x hx => ⟨_, _, hx, rfl, rfl⟩) d_Gp_isSealRight_19 (fun v hv => ?_)
  subst hv
  refine lv_iload hx hb d_Gp_isSealRight_22 (lv_at hl 0 rfl) ?_
  refine lv_bipush (v := 16) hx hb d_Gp_isSealRight_24 (by decide) ?_
  refine lv_isub hx hb d_Gp_isSealRight_26 ?_
  refine gw_Vv (As := [.ref (A 12 i), .long i0, .ref (A 3 0), .int (x2 - (16 : Int32))]) (rest := []) M hK hI (c_Ch_ofBody l (A 7 0) i0 (x2 - (16 : Int32)) (sa_2 hb9) hC.check (A 3 0) (A 9 0) 236 (by decide) hC.sent isRw_Ro hC.sq (A 12 i) (A 13 i) (A 15 i) (tt i) (xt i) (la i) (li i) (hC.as hi)) k_Ch_ofBody m_Gp_107 hC.check (ci := 1) rfl (fun x hx => by obtain ⟨u1, u2, q9⟩ := hx; exact ⟨_, q9⟩) rfl hl.1 rfl (Nat.le_of_ble_eq_true rfl) ⟨rfl, rfl, ⟨Nat.le_of_ble_eq_true rfl, Nat.le_of_ble_eq_true rfl⟩, ⟨Nat.le_of_ble_eq_true rfl, Nat.le_of_ble_eq_true rfl⟩⟩ d_Gp_isSealRight_27 (fun G9 H locs hw hI => ?_)
  rw [hw] at hI
  refine lv_aload_n hx hb d_Gp_isSealRight_30 rfl (lv_at hl 2 rfl) ?_
  refine lv_aload_n hx hb d_Gp_isSealRight_31 rfl (lv_at hl 1 rfl) ?_
  refine gw_get M hK hI hC.O i_Gp rfl 7 (by decide) f_Gp_44 rfl (Pv := fun v => v = .ref (A 7 0)) (fun x hx => ⟨_, _, hx, rfl, rfl⟩) d_Gp_isSealRight_32 (fun v hv => ?_)
  subst hv
  refine lv_aload_n hx hb d_Gp_isSealRight_35 rfl (lv_at hl 1 rfl) ?_
  refine gw_get M hK hI hC.O i_Gp rfl 3 (by decide) f_Gp_28 rfl (Pv := fun v => v = .ref (A 3 0)) (fun x hx => ⟨_, _, hx, rfl, rfl⟩) d_Gp_isSealRight_36 (fun v hv => ?_)
  subst hv
  refine lv_bipush (v := 8) hx hb d_Gp_isSealRight_39 (by decide) ?_
  refine lv_bipush (v := 8) hx hb d_Gp_isSealRight_41 (by decide) ?_
  refine gw_Vl (As := [.int 8, .int 8]) (rest := [.ref (A 7 0), .ref (A 12 i)]) M hK hI (c_Ro_number l (8 : Int32) (8 : Int32) (by decide) (A 3 0) (A 9 0) 236 (by decide) hC.sent isRw_Ro hC.sq) k_Ro_number m_Gp_151 hC.sent (ci := 3) rfl (fun x hx => by obtain ⟨u1, u2, h_u1, h_u2, q9⟩ := hx; exact ⟨_, q9⟩) rfl hl.1 rfl (Nat.le_of_ble_eq_true rfl) ⟨rfl, rfl, ⟨Nat.le_of_ble_eq_true rfl, Nat.le_of_ble_eq_true rfl⟩, ⟨Nat.le_of_ble_eq_true rfl, Nat.le_of_ble_eq_true rfl⟩⟩ d_Gp_isSealRight_43 (fun x4 G9 H locs hw hI => ?_)
  rw [hw] at hI
  refine gw_Vv (As := [.ref (A 7 0), .long x4]) (rest := []) M hK hI (c_As_maskCheck l (A 7 0) x4 hC.check (A 12 i) (A 13 i) (A 15 i) (tt i) (xt i) (la i) (li i) (hC.as hi) (A 14 i) (hC.ci hi) (hC.wo hi)) k_As_maskCheck m_Gp_111 (hC.as hi) (ci := 0) rfl (fun x hx => by obtain ⟨u3, u5, u6, u9, v1, v2, q9⟩ := hx; exact ⟨_, q9⟩) rfl hl.1 rfl (Nat.le_of_ble_eq_true rfl) ⟨rfl, rfl, ⟨Nat.le_of_ble_eq_true rfl, Nat.le_of_ble_eq_true rfl⟩, ⟨Nat.le_of_ble_eq_true rfl, Nat.le_of_ble_eq_true rfl⟩⟩ d_Gp_isSealRight_46 (fun G9 H locs hw hI => ?_)
  rw [hw] at hI
  refine lv_aload_n hx hb d_Gp_isSealRight_49 rfl (lv_at hl 1 rfl) ?_
  refine gw_get M hK hI hC.O i_Gp rfl 7 (by decide) f_Gp_44 rfl (Pv := fun v => v = .ref (A 7 0)) (fun x hx => ⟨_, _, hx, rfl, rfl⟩) d_Gp_isSealRight_50 (fun v hv => ?_)
  subst hv
  refine gw_get M hK hI hC.check i_Ch rfl 0 (by decide) f_Gp_115 rfl (Pv := fun v => ∃ x9 : Int64, v = .long x9) (fun x hx => by obtain ⟨u1, u2, q9⟩ := hx; exact ⟨_, _, q9, rfl, _, rfl⟩) d_Gp_isSealRight_53 (fun v hv => ?_)
  obtain ⟨x6, rfl⟩ := hv
  refine lv_aload_n hx hb d_Gp_isSealRight_56 rfl (lv_at hl 1 rfl) ?_
  refine gw_get M hK hI hC.O i_Gp rfl 3 (by decide) f_Gp_28 rfl (Pv := fun v => v = .ref (A 3 0)) (fun x hx => ⟨_, _, hx, rfl, rfl⟩) d_Gp_isSealRight_57 (fun v hv => ?_)
  subst hv
  refine lv_iload hx hb d_Gp_isSealRight_60 (lv_at hl 0 rfl) ?_
  refine lv_bipush (v := 8) hx hb d_Gp_isSealRight_62 (by decide) ?_
  refine gw_Vl (As := [.int x2, .int 8]) (rest := [.long x6]) M hK hI (c_Ro_number l x2 (8 : Int32) (sa_3 hb9) (A 3 0) (A 9 0) 236 (by decide) hC.sent isRw_Ro hC.sq) k_Ro_number m_Gp_151 hC.sent (ci := 3) rfl (fun x hx => by obtain ⟨u1, u2, h_u1, h_u2, q9⟩ := hx; exact ⟨_, q9⟩) rfl hl.1 rfl (Nat.le_of_ble_eq_true rfl) ⟨rfl, rfl, ⟨Nat.le_of_ble_eq_true rfl, Nat.le_of_ble_eq_true rfl⟩, ⟨Nat.le_of_ble_eq_true rfl, Nat.le_of_ble_eq_true rfl⟩⟩ d_Gp_isSealRight_64 (fun x7 G9 H locs hw hI => ?_)
  rw [hw] at hI
  refine W.lcmp hx hb d_Gp_isSealRight_67 ?_
  refine lv_if_ne (tgt := 100) hx hb d_Gp_isSealRight_68 (by decide) (fun c_68 => ?_) (fun c_68 => ?_)
  · refine lv_iconst (v := 0) hx hb d_Gp_isSealRight_100 (by decide) ?_
    exact gw_zret M hr rfl hlo hI d_Gp_isSealRight_101 rfl
  · refine lv_aload_n hx hb d_Gp_isSealRight_71 rfl (lv_at hl 1 rfl) ?_
    refine gw_get M hK hI hC.O i_Gp rfl 7 (by decide) f_Gp_44 rfl (Pv := fun v => v = .ref (A 7 0)) (fun x hx => ⟨_, _, hx, rfl, rfl⟩) d_Gp_isSealRight_72 (fun v hv => ?_)
    subst hv
    refine gw_get M hK hI hC.check i_Ch rfl 1 (by decide) f_Gp_122 rfl (Pv := fun v => ∃ x9 : Int64, v = .long x9) (fun x hx => by obtain ⟨u1, u2, q9⟩ := hx; exact ⟨_, _, q9, rfl, _, rfl⟩) d_Gp_isSealRight_75 (fun v hv => ?_)
    obtain ⟨x8, rfl⟩ := hv
    refine lv_aload_n hx hb d_Gp_isSealRight_78 rfl (lv_at hl 1 rfl) ?_
    refine gw_get M hK hI hC.O i_Gp rfl 3 (by decide) f_Gp_28 rfl (Pv := fun v => v = .ref (A 3 0)) (fun x hx => ⟨_, _, hx, rfl, rfl⟩) d_Gp_isSealRight_79 (fun v hv => ?_)
    subst hv
    refine lv_iload hx hb d_Gp_isSealRight_82 (lv_at hl 0 rfl) ?_
    refine lv_bipush (v := 8) hx hb d_Gp_isSealRight_84 (by decide) ?_
    refine lv_iadd hx hb d_Gp_isSealRight_86 ?_
    refine lv_bipush (v := 8) hx hb d_Gp_isSealRight_87 (by decide) ?_
    refine gw_Vl (As := [.int (x2 + (8 : Int32)), .int 8]) (rest := [.long x8]) M hK hI (c_Ro_number l (x2 + (8 : Int32)) (8 : Int32) (sa_4 hb9) (A 3 0) (A 9 0) 236 (by decide) hC.sent isRw_Ro hC.sq) k_Ro_number m_Gp_151 hC.sent (ci := 3) rfl (fun x hx => by obtain ⟨u1, u2, h_u1, h_u2, q9⟩ := hx; exact ⟨_, q9⟩) rfl hl.1 rfl (Nat.le_of_ble_eq_true rfl) ⟨rfl, rfl, ⟨Nat.le_of_ble_eq_true rfl, Nat.le_of_ble_eq_true rfl⟩, ⟨Nat.le_of_ble_eq_true rfl, Nat.le_of_ble_eq_true rfl⟩⟩ d_Gp_isSealRight_89 (fun x9 G9 H locs hw hI => ?_)
    rw [hw] at hI
    refine W.lcmp hx hb d_Gp_isSealRight_92 ?_
    refine lv_if_ne (tgt := 100) hx hb d_Gp_isSealRight_93 (by decide) (fun c_93 => ?_) (fun c_93 => ?_)
    · refine lv_iconst (v := 0) hx hb d_Gp_isSealRight_100 (by decide) ?_
      exact gw_zret M hr rfl hlo hI d_Gp_isSealRight_101 rfl
    · refine lv_iconst (v := 1) hx hb d_Gp_isSealRight_96 (by decide) ?_
      refine lv_goto (tgt := 101) hx hb d_Gp_isSealRight_97 (by decide) ?_
      exact gw_zret M hr rfl hlo hI d_Gp_isSealRight_101 rfl

abbrev rm_Gp_isFillRight : Room := { frames := 1, cells := 0, slots := 0, locals := 22 }
set_option maxHeartbeats 4000000 in
set_option maxRecDepth 100000 in
theorem c_Gp_isFillRight (l : Launch) {D : gw_D} {Hs : Heap} {G : gw_G} (A : Nat → Nat → Nat) (pm : Nat → Nat) (cnt fd : Nat) (tt xt li : Nat → Int32) (la : Nat → Int64) (hC : cls D G A pm cnt fd tt xt li la) (n1 : Int32) : Met l y_Gp_isFillRight (Cond.code y_Gp_isFillRight b_Gp_isFillRight 4 (some .boolean) :: tb) rm_Gp_isFillRight (gw_Pc D Hs G [.ref (A 0 0), .int n1]) (gw_Qi D Hs (fun _ G1 => G1 = G)) 0 0 (gw_A Hs) := by
  refine gw_met (by decide) (Nat.le_of_ble_eq_true rfl) ?_
  intro p e s m args below meth c M hK hr hlo hin hI ls hl
  have hx := M.1
  have hb := M.2.1
  have hl : lv_has ls 4 [(0, .ref (A 0 0)), (1, .int n1)] := hl
  refine lv_aload_n hx hb d_Gp_isFillRight_0 rfl (lv_at hl 0 rfl) ?_
  refine gw_get M hK hI hC.O i_Gp rfl 5 (by decide) f_Gp_35 rfl (Pv := fun v => v = .ref (A 5 0)) (fun x hx => ⟨_, _, hx, rfl, rfl⟩) d_Gp_isFillRight_1 (fun v hv => ?_)
  subst hv
  refine gw_get M hK hI hC.plain i_Ro rfl 1 (by decide) f_Gp_87 rfl (Pv := fun v => ∃ x9 : Int32, v = .int x9 ∧ (∃ k, k ≤ 204 ∧ x9 = nI k)) (fun x hx => by obtain ⟨u1, u2, h_u1, h_u2, q9⟩ := hx; exact ⟨_, _, q9, rfl, _, rfl, h_u1⟩) d_Gp_isFillRight_4 (fun v hv => ?_)
  obtain ⟨x1, rfl, h_x1⟩ := hv
  refine lv_iconst (v := 2) hx hb d_Gp_isFillRight_7 (by decide) ?_
  refine lv_isub hx hb d_Gp_isFillRight_8 ?_
  refine lv_iload_n hx hb d_Gp_isFillRight_9 rfl (lv_at hl 1 rfl) ?_
  refine lv_isub hx hb d_Gp_isFillRight_10 ?_
  refine lv_topi (fun x2 e_x2 => ?_)
  refine lv_istore_n (lv' := [(2, .int x2), (0, .ref (A 0 0)), (1, .int n1)]) hx hb d_Gp_isFillRight_11 rfl hl (by decide) rfl (fun ls hl => ?_)
  refine lv_iload_n hx hb d_Gp_isFillRight_12 rfl (lv_at hl 0 rfl) ?_
  refine lv_if_ge (tgt := 18) hx hb d_Gp_isFillRight_13 (by decide) (fun c_13 => ?_) (fun c_13 => ?_)
  · obtain ⟨y2, hy2⟩ : ∃ z, z = x2 := ⟨_, rfl⟩
    rw [← hy2] at hl
    refine lv_iconst (v := 0) hx hb d_Gp_isFillRight_18 (by decide) ?_
    refine lv_istore_n (lv' := [(3, .int 0), (2, .int y2), (0, .ref (A 0 0)), (1, .int n1)]) hx hb d_Gp_isFillRight_19 rfl hl (by decide) rfl (fun ls hl => ?_)
    have L_20 : ∀ (n9 : Nat) (y3 : Int32) (H : Heap) (locs : List Loc) (ls : Array Slot), (n1.toInt - y3.toInt).toNat < n9 → gw_I D Hs G s.heap H locs → lv_has ls 4 [(3, .int y3), (2, .int y2), (0, .ref (A 0 0)), (1, .int n1)] → W p l e rm_Gp_isFillRight s m args below meth c H locs 0 0 (MQ below (gw_Qi D Hs (fun _ G1 => G1 = G)) args s 0 0 (gw_A Hs)) (F0 m 20 ls []) := by
      intro n9
      induction n9 with
      | zero =>
        intro y3 H locs ls  hm hI hl
        exact absurd hm (Nat.not_lt_zero _)
      | succ n9 ih_20 =>
        intro y3 H locs ls  hm_20 hI hl
        refine lv_iload_n hx hb d_Gp_isFillRight_20 rfl (lv_at hl 0 rfl) ?_
        refine lv_iload_n hx hb d_Gp_isFillRight_21 rfl (lv_at hl 3 rfl) ?_
        refine lv_icmp_ge (tgt := 50) hx hb d_Gp_isFillRight_22 (by decide) (fun c_22 => ?_) (fun c_22 => ?_)
        · refine lv_iconst (v := 1) hx hb d_Gp_isFillRight_50 (by decide) ?_
          exact gw_zret M hr rfl hlo hI d_Gp_isFillRight_51 rfl
        · refine lv_aload_n hx hb d_Gp_isFillRight_25 rfl (lv_at hl 2 rfl) ?_
          refine gw_get M hK hI hC.O i_Gp rfl 5 (by decide) f_Gp_35 rfl (Pv := fun v => v = .ref (A 5 0)) (fun x hx => ⟨_, _, hx, rfl, rfl⟩) d_Gp_isFillRight_26 (fun v hv => ?_)
          subst hv
          refine lv_iload_n hx hb d_Gp_isFillRight_29 rfl (lv_at hl 1 rfl) ?_
          refine lv_iload_n hx hb d_Gp_isFillRight_30 rfl (lv_at hl 0 rfl) ?_
          refine lv_iadd hx hb d_Gp_isFillRight_31 ?_
          refine lv_i2l hx hb d_Gp_isFillRight_32 rfl ?_
          refine gw_Vi (As := [.long (((y2 + y3)).toInt64)]) (rest := []) M hK hI (c_Ro_at l (((y2 + y3)).toInt64) (A 5 0) (A 10 0) 204 (by decide) hC.plain isRw_Ro hC.pq) k_Ro_at m_Gp_132 hC.plain (ci := 3) rfl (fun x hx => by obtain ⟨u1, u2, h_u1, h_u2, q9⟩ := hx; exact ⟨_, q9⟩) rfl hl.1 rfl (Nat.le_of_ble_eq_true rfl) ⟨rfl, rfl, ⟨Nat.le_of_ble_eq_true rfl, Nat.le_of_ble_eq_true rfl⟩, ⟨Nat.le_of_ble_eq_true rfl, Nat.le_of_ble_eq_true rfl⟩⟩ d_Gp_isFillRight_33 (fun x3 G9 H locs hw hI => ?_)
          rw [hw] at hI
          refine lv_iload_n hx hb d_Gp_isFillRight_36 rfl (lv_at hl 0 rfl) ?_
          refine lv_iconst (v := 1) hx hb d_Gp_isFillRight_37 (by decide) ?_
          refine lv_iadd hx hb d_Gp_isFillRight_38 ?_
          refine lv_icmp_eq (tgt := 44) hx hb d_Gp_isFillRight_39 (by decide) (fun c_39 => ?_) (fun c_39 => ?_)
          · obtain ⟨x4, e_x4⟩ : ∃ ww9 : Int32, ww9 = y3 + 1 := ⟨_, rfl⟩
            refine lv_iinc (v := x4) (lv' := [(3, .int x4), (2, .int y2), (0, .ref (A 0 0)), (1, .int n1)]) hx hb d_Gp_isFillRight_44 hl (k := 0) rfl (by rw [e_x4]; rfl) (by decide) rfl (fun ls hl => ?_)
            refine lv_goto (tgt := 20) hx hb d_Gp_isFillRight_47 (by decide) ?_
            exact ih_20 x4 _ _ _  (ml_s c_22 e_x4 hm_20) hI (lv_sub hl [0, 1, 2, 3] rfl)
          · refine lv_iconst (v := 0) hx hb d_Gp_isFillRight_42 (by decide) ?_
            exact gw_zret M hr rfl hlo hI d_Gp_isFillRight_43 rfl
    exact L_20 _ 0 _ _ _  (Nat.lt_succ_self _) hI (lv_sub hl [0, 1, 2, 3] rfl)
  · refine lv_iconst (v := 0) hx hb d_Gp_isFillRight_16 (by decide) ?_
    exact gw_zret M hr rfl hlo hI d_Gp_isFillRight_17 rfl

abbrev rm_Gp_unpack : Room := { frames := 5, cells := 0, slots := 0, locals := 129 }
set_option maxHeartbeats 4000000 in
set_option maxRecDepth 100000 in
theorem c_Gp_unpack (l : Launch) {D : gw_D} {Hs : Heap} {G : gw_G} (A : Nat → Nat → Nat) (pm : Nat → Nat) (cnt fd : Nat) (tt xt li : Nat → Int32) (la : Nat → Int64) (hC : cls D G A pm cnt fd tt xt li la) (i : Nat) (hi : i < 16)  : Met l y_Gp_unpack (Cond.code y_Gp_unpack b_Gp_unpack 4 (some .int) :: tb) rm_Gp_unpack (gw_Pc D Hs G [.ref (A 0 0), .ref (A 12 i)]) (gw_Qi D Hs (fun _ G1 => G1 = G)) 0 0 (gw_A Hs) := by
  refine gw_met (by decide) (Nat.le_of_ble_eq_true rfl) ?_
  intro p e s m args below meth c M hK hr hlo hin hI ls hl
  have hx := M.1
  have hb := M.2.1
  have hl : lv_has ls 4 [(0, .ref (A 0 0)), (1, .ref (A 12 i))] := hl
  refine lv_aload_n hx hb d_Gp_unpack_0 rfl (lv_at hl 0 rfl) ?_
  refine gw_get M hK hI hC.O i_Gp rfl 5 (by decide) f_Gp_35 rfl (Pv := fun v => v = .ref (A 5 0)) (fun x hx => ⟨_, _, hx, rfl, rfl⟩) d_Gp_unpack_1 (fun v hv => ?_)
  subst hv
  refine gw_Vv (As := []) (rest := []) M hK hI (c_Ro_clear l (A 5 0) (A 10 0) 204 (by decide) hC.plain hC.pq) k_Ro_clear m_Gp_208 hC.plain (ci := 3) rfl (fun x hx => by obtain ⟨u1, u2, h_u1, h_u2, q9⟩ := hx; exact ⟨_, q9⟩) rfl hl.1 rfl (Nat.le_of_ble_eq_true rfl) ⟨rfl, rfl, ⟨Nat.le_of_ble_eq_true rfl, Nat.le_of_ble_eq_true rfl⟩, ⟨Nat.le_of_ble_eq_true rfl, Nat.le_of_ble_eq_true rfl⟩⟩ d_Gp_unpack_4 (fun G9 H locs hw hI => ?_)
  rw [hw] at hI
  refine lv_aload_n hx hb d_Gp_unpack_7 rfl (lv_at hl 0 rfl) ?_
  refine gw_get M hK hI hC.O i_Gp rfl 5 (by decide) f_Gp_35 rfl (Pv := fun v => v = .ref (A 5 0)) (fun x hx => ⟨_, _, hx, rfl, rfl⟩) d_Gp_unpack_8 (fun v hv => ?_)
  subst hv
  refine lv_aload_n hx hb d_Gp_unpack_11 rfl (lv_at hl 0 rfl) ?_
  refine gw_get M hK hI hC.O i_Gp rfl 3 (by decide) f_Gp_28 rfl (Pv := fun v => v = .ref (A 3 0)) (fun x hx => ⟨_, _, hx, rfl, rfl⟩) d_Gp_unpack_12 (fun v hv => ?_)
  subst hv
  refine lv_bipush (v := 16) hx hb d_Gp_unpack_15 (by decide) ?_
  refine lv_aload_n hx hb d_Gp_unpack_17 rfl (lv_at hl 0 rfl) ?_
  refine gw_get M hK hI hC.O i_Gp rfl 3 (by decide) f_Gp_28 rfl (Pv := fun v => v = .ref (A 3 0)) (fun x hx => ⟨_, _, hx, rfl, rfl⟩) d_Gp_unpack_18 (fun v hv => ?_)
  subst hv
  refine gw_get M hK hI hC.sent i_Ro rfl 1 (by decide) f_Gp_87 rfl (Pv := fun v => ∃ x9 : Int32, v = .int x9 ∧ (∃ k, k ≤ 236 ∧ x9 = nI k)) (fun x hx => by obtain ⟨u1, u2, h_u1, h_u2, q9⟩ := hx; exact ⟨_, _, q9, rfl, _, rfl, h_u1⟩) d_Gp_unpack_21 (fun v hv => ?_)
  obtain ⟨x2, rfl, h_x2⟩ := hv
  refine lv_bipush (v := 16) hx hb d_Gp_unpack_24 (by decide) ?_
  refine lv_isub hx hb d_Gp_unpack_26 ?_
  refine gw_Vv (As := [.ref (A 3 0), .int 16, .int (x2 - (16 : Int32))]) (rest := []) M hK hI (c_Ro_appendRow l 16 (x2 - (16 : Int32)) (A 3 0) (A 9 0) 236 (by decide) hC.sent isRw_Ro hC.sq (A 5 0) (A 10 0) 204 (by decide) hC.plain hC.pq) k_Ro_appendRow m_Gp_211 hC.plain (ci := 3) rfl (fun x hx => by obtain ⟨u1, u2, h_u1, h_u2, q9⟩ := hx; exact ⟨_, q9⟩) rfl hl.1 rfl (Nat.le_of_ble_eq_true rfl) ⟨rfl, rfl, ⟨Nat.le_of_ble_eq_true rfl, Nat.le_of_ble_eq_true rfl⟩, ⟨Nat.le_of_ble_eq_true rfl, Nat.le_of_ble_eq_true rfl⟩⟩ d_Gp_unpack_27 (fun G9 H locs hw hI => ?_)
  rw [hw] at hI
  refine lv_aload_n hx hb d_Gp_unpack_30 rfl (lv_at hl 1 rfl) ?_
  refine lv_aload_n hx hb d_Gp_unpack_31 rfl (lv_at hl 0 rfl) ?_
  refine gw_get M hK hI hC.O i_Gp rfl 5 (by decide) f_Gp_35 rfl (Pv := fun v => v = .ref (A 5 0)) (fun x hx => ⟨_, _, hx, rfl, rfl⟩) d_Gp_unpack_32 (fun v hv => ?_)
  subst hv
  refine lv_iconst (v := 0) hx hb d_Gp_unpack_35 (by decide) ?_
  refine lv_aload_n hx hb d_Gp_unpack_36 rfl (lv_at hl 0 rfl) ?_
  refine gw_get M hK hI hC.O i_Gp rfl 3 (by decide) f_Gp_28 rfl (Pv := fun v => v = .ref (A 3 0)) (fun x hx => ⟨_, _, hx, rfl, rfl⟩) d_Gp_unpack_37 (fun v hv => ?_)
  subst hv
  refine lv_bipush (v := 8) hx hb d_Gp_unpack_40 (by decide) ?_
  refine lv_bipush (v := 8) hx hb d_Gp_unpack_42 (by decide) ?_
  refine gw_Vl (As := [.int 8, .int 8]) (rest := [.int 0, .ref (A 5 0), .ref (A 12 i)]) M hK hI (c_Ro_number l (8 : Int32) (8 : Int32) (by decide) (A 3 0) (A 9 0) 236 (by decide) hC.sent isRw_Ro hC.sq) k_Ro_number m_Gp_151 hC.sent (ci := 3) rfl (fun x hx => by obtain ⟨u1, u2, h_u1, h_u2, q9⟩ := hx; exact ⟨_, q9⟩) rfl hl.1 rfl (Nat.le_of_ble_eq_true rfl) ⟨rfl, rfl, ⟨Nat.le_of_ble_eq_true rfl, Nat.le_of_ble_eq_true rfl⟩, ⟨Nat.le_of_ble_eq_true rfl, Nat.le_of_ble_eq_true rfl⟩⟩ d_Gp_unpack_44 (fun x4 G9 H locs hw hI => ?_)
  rw [hw] at hI
  refine gw_Vv (As := [.ref (A 5 0), .int 0, .long x4]) (rest := []) M hK hI (c_As_mask l 0 (by decide) x4 (A 5 0) (A 10 0) 204 (by decide) hC.plain hC.pq (A 12 i) (A 13 i) (A 15 i) (tt i) (xt i) (la i) (li i) (hC.as hi) (A 14 i) (hC.ci hi) (hC.wo hi)) k_As_mask m_Gp_103 (hC.as hi) (ci := 0) rfl (fun x hx => by obtain ⟨u3, u5, u6, u9, v1, v2, q9⟩ := hx; exact ⟨_, q9⟩) rfl hl.1 rfl (Nat.le_of_ble_eq_true rfl) ⟨rfl, rfl, ⟨Nat.le_of_ble_eq_true rfl, Nat.le_of_ble_eq_true rfl⟩, ⟨Nat.le_of_ble_eq_true rfl, Nat.le_of_ble_eq_true rfl⟩⟩ d_Gp_unpack_47 (fun G9 H locs hw hI => ?_)
  rw [hw] at hI
  refine lv_aload_n hx hb d_Gp_unpack_50 rfl (lv_at hl 0 rfl) ?_
  refine gw_get M hK hI hC.O i_Gp rfl 6 (by decide) f_Gp_38 rfl (Pv := fun v => v = .ref (A 6 0)) (fun x hx => ⟨_, _, hx, rfl, rfl⟩) d_Gp_unpack_51 (fun v hv => ?_)
  subst hv
  refine gw_Vv (As := []) (rest := []) M hK hI (c_Ro_clear l (A 6 0) (A 11 0) 204 (by decide) hC.gain hC.gq) k_Ro_clear m_Gp_208 hC.gain (ci := 3) rfl (fun x hx => by obtain ⟨u1, u2, h_u1, h_u2, q9⟩ := hx; exact ⟨_, q9⟩) rfl hl.1 rfl (Nat.le_of_ble_eq_true rfl) ⟨rfl, rfl, ⟨Nat.le_of_ble_eq_true rfl, Nat.le_of_ble_eq_true rfl⟩, ⟨Nat.le_of_ble_eq_true rfl, Nat.le_of_ble_eq_true rfl⟩⟩ d_Gp_unpack_54 (fun G9 H locs hw hI => ?_)
  rw [hw] at hI
  refine lv_aload_n hx hb d_Gp_unpack_57 rfl (lv_at hl 0 rfl) ?_
  refine gw_get M hK hI hC.O i_Gp rfl 5 (by decide) f_Gp_35 rfl (Pv := fun v => v = .ref (A 5 0)) (fun x hx => ⟨_, _, hx, rfl, rfl⟩) d_Gp_unpack_58 (fun v hv => ?_)
  subst hv
  refine lv_aload_n hx hb d_Gp_unpack_61 rfl (lv_at hl 0 rfl) ?_
  refine gw_get M hK hI hC.O i_Gp rfl 5 (by decide) f_Gp_35 rfl (Pv := fun v => v = .ref (A 5 0)) (fun x hx => ⟨_, _, hx, rfl, rfl⟩) d_Gp_unpack_62 (fun v hv => ?_)
  subst hv
  refine gw_get M hK hI hC.plain i_Ro rfl 1 (by decide) f_Gp_87 rfl (Pv := fun v => ∃ x9 : Int32, v = .int x9 ∧ (∃ k, k ≤ 204 ∧ x9 = nI k)) (fun x hx => by obtain ⟨u1, u2, h_u1, h_u2, q9⟩ := hx; exact ⟨_, _, q9, rfl, _, rfl, h_u1⟩) d_Gp_unpack_65 (fun v hv => ?_)
  obtain ⟨x7, rfl, h_x7⟩ := hv
  refine lv_iconst (v := 2) hx hb d_Gp_unpack_68 (by decide) ?_
  refine lv_isub hx hb d_Gp_unpack_69 ?_
  refine lv_i2l hx hb d_Gp_unpack_70 rfl ?_
  refine gw_Vi (As := [.long (((x7 - (2 : Int32))).toInt64)]) (rest := []) M hK hI (c_Ro_at l (((x7 - (2 : Int32))).toInt64) (A 5 0) (A 10 0) 204 (by decide) hC.plain isRw_Ro hC.pq) k_Ro_at m_Gp_132 hC.plain (ci := 3) rfl (fun x hx => by obtain ⟨u1, u2, h_u1, h_u2, q9⟩ := hx; exact ⟨_, q9⟩) rfl hl.1 rfl (Nat.le_of_ble_eq_true rfl) ⟨rfl, rfl, ⟨Nat.le_of_ble_eq_true rfl, Nat.le_of_ble_eq_true rfl⟩, ⟨Nat.le_of_ble_eq_true rfl, Nat.le_of_ble_eq_true rfl⟩⟩ d_Gp_unpack_71 (fun x8 G9 H locs hw hI => ?_)
  rw [hw] at hI
  refine lv_istore_n (lv' := [(2, .int x8), (0, .ref (A 0 0)), (1, .ref (A 12 i))]) hx hb d_Gp_unpack_74 rfl hl (by decide) rfl (fun ls hl => ?_)
  refine lv_aload_n hx hb d_Gp_unpack_75 rfl (lv_at hl 1 rfl) ?_
  refine gw_get M hK hI hC.O i_Gp rfl 5 (by decide) f_Gp_35 rfl (Pv := fun v => v = .ref (A 5 0)) (fun x hx => ⟨_, _, hx, rfl, rfl⟩) d_Gp_unpack_76 (fun v hv => ?_)
  subst hv
  refine lv_aload_n hx hb d_Gp_unpack_79 rfl (lv_at hl 1 rfl) ?_
  refine gw_get M hK hI hC.O i_Gp rfl 5 (by decide) f_Gp_35 rfl (Pv := fun v => v = .ref (A 5 0)) (fun x hx => ⟨_, _, hx, rfl, rfl⟩) d_Gp_unpack_80 (fun v hv => ?_)
  subst hv
  refine gw_get M hK hI hC.plain i_Ro rfl 1 (by decide) f_Gp_87 rfl (Pv := fun v => ∃ x9 : Int32, v = .int x9 ∧ (∃ k, k ≤ 204 ∧ x9 = nI k)) (fun x hx => by obtain ⟨u1, u2, h_u1, h_u2, q9⟩ := hx; exact ⟨_, _, q9, rfl, _, rfl, h_u1⟩) d_Gp_unpack_83 (fun v hv => ?_)
  obtain ⟨x9, rfl, h_x9⟩ := hv
  refine lv_iconst (v := 1) hx hb d_Gp_unpack_86 (by decide) ?_
  refine lv_isub hx hb d_Gp_unpack_87 ?_
  refine lv_i2l hx hb d_Gp_unpack_88 rfl ?_
  refine gw_Vi (As := [.long (((x9 - (1 : Int32))).toInt64)]) (rest := []) M hK hI (c_Ro_at l (((x9 - (1 : Int32))).toInt64) (A 5 0) (A 10 0) 204 (by decide) hC.plain isRw_Ro hC.pq) k_Ro_at m_Gp_132 hC.plain (ci := 3) rfl (fun x hx => by obtain ⟨u1, u2, h_u1, h_u2, q9⟩ := hx; exact ⟨_, q9⟩) rfl hl.1 rfl (Nat.le_of_ble_eq_true rfl) ⟨rfl, rfl, ⟨Nat.le_of_ble_eq_true rfl, Nat.le_of_ble_eq_true rfl⟩, ⟨Nat.le_of_ble_eq_true rfl, Nat.le_of_ble_eq_true rfl⟩⟩ d_Gp_unpack_89 (fun x10 G9 H locs hw hI => ?_)
  rw [hw] at hI
  refine lv_istore_n (lv' := [(3, .int x10), (2, .int x8), (0, .ref (A 0 0)), (1, .ref (A 12 i))]) hx hb d_Gp_unpack_92 rfl hl (by decide) rfl (fun ls hl => ?_)
  refine lv_aload_n hx hb d_Gp_unpack_93 rfl (lv_at hl 2 rfl) ?_
  refine lv_iload_n hx hb d_Gp_unpack_94 rfl (lv_at hl 1 rfl) ?_
  refine gw_Vi (As := [.int x8]) (rest := []) M hK hI (c_Gp_isFillRight l A pm cnt fd tt xt li la hC x8) k_Gp_isFillRight m_Gp_215 hC.O (ci := 5) rfl (fun x hx => ⟨_, hx⟩) rfl hl.1 rfl (Nat.le_of_ble_eq_true rfl) ⟨rfl, rfl, ⟨Nat.le_of_ble_eq_true rfl, Nat.le_of_ble_eq_true rfl⟩, ⟨Nat.le_of_ble_eq_true rfl, Nat.le_of_ble_eq_true rfl⟩⟩ d_Gp_unpack_95 (fun x11 G9 H locs hw hI => ?_)
  rw [hw] at hI
  refine lv_if_ne (tgt := 104) hx hb d_Gp_unpack_98 (by decide) (fun c_98 => ?_) (fun c_98 => ?_)
  · refine lv_iload_n hx hb d_Gp_unpack_104 rfl (lv_at hl 0 rfl) ?_
    refine lv_bipush (v := 59) hx hb d_Gp_unpack_105 (by decide) ?_
    refine lv_icmp_ne (tgt := 113) hx hb d_Gp_unpack_107 (by decide) (fun c_107 => ?_) (fun c_107 => ?_)
    · refine lv_aload_n hx hb d_Gp_unpack_113 rfl (lv_at hl 2 rfl) ?_
      refine gw_get M hK hI hC.O i_Gp rfl 6 (by decide) f_Gp_38 rfl (Pv := fun v => v = .ref (A 6 0)) (fun x hx => ⟨_, _, hx, rfl, rfl⟩) d_Gp_unpack_114 (fun v hv => ?_)
      subst hv
      refine lv_aload_n hx hb d_Gp_unpack_117 rfl (lv_at hl 2 rfl) ?_
      refine gw_get M hK hI hC.O i_Gp rfl 5 (by decide) f_Gp_35 rfl (Pv := fun v => v = .ref (A 5 0)) (fun x hx => ⟨_, _, hx, rfl, rfl⟩) d_Gp_unpack_118 (fun v hv => ?_)
      subst hv
      refine lv_iconst (v := 0) hx hb d_Gp_unpack_121 (by decide) ?_
      refine lv_aload_n hx hb d_Gp_unpack_122 rfl (lv_at hl 2 rfl) ?_
      refine gw_get M hK hI hC.O i_Gp rfl 5 (by decide) f_Gp_35 rfl (Pv := fun v => v = .ref (A 5 0)) (fun x hx => ⟨_, _, hx, rfl, rfl⟩) d_Gp_unpack_123 (fun v hv => ?_)
      subst hv
      refine gw_get M hK hI hC.plain i_Ro rfl 1 (by decide) f_Gp_87 rfl (Pv := fun v => ∃ x9 : Int32, v = .int x9 ∧ (∃ k, k ≤ 204 ∧ x9 = nI k)) (fun x hx => by obtain ⟨u1, u2, h_u1, h_u2, q9⟩ := hx; exact ⟨_, _, q9, rfl, _, rfl, h_u1⟩) d_Gp_unpack_126 (fun v hv => ?_)
      obtain ⟨x12, rfl, h_x12⟩ := hv
      refine lv_iconst (v := 2) hx hb d_Gp_unpack_129 (by decide) ?_
      refine lv_isub hx hb d_Gp_unpack_130 ?_
      refine lv_iload_n hx hb d_Gp_unpack_131 rfl (lv_at hl 1 rfl) ?_
      refine lv_isub hx hb d_Gp_unpack_132 ?_
      refine gw_Vv (As := [.ref (A 5 0), .int 0, .int ((x12 - (2 : Int32)) - x8)]) (rest := []) M hK hI (c_Ro_appendRow l 0 ((x12 - (2 : Int32)) - x8) (A 5 0) (A 10 0) 204 (by decide) hC.plain isRw_Ro hC.pq (A 6 0) (A 11 0) 204 (by decide) hC.gain hC.gq) k_Ro_appendRow m_Gp_211 hC.gain (ci := 3) rfl (fun x hx => by obtain ⟨u1, u2, h_u1, h_u2, q9⟩ := hx; exact ⟨_, q9⟩) rfl hl.1 rfl (Nat.le_of_ble_eq_true rfl) ⟨rfl, rfl, ⟨Nat.le_of_ble_eq_true rfl, Nat.le_of_ble_eq_true rfl⟩, ⟨Nat.le_of_ble_eq_true rfl, Nat.le_of_ble_eq_true rfl⟩⟩ d_Gp_unpack_133 (fun G9 H locs hw hI => ?_)
      rw [hw] at hI
      refine lv_iload_n hx hb d_Gp_unpack_136 rfl (lv_at hl 0 rfl) ?_
      exact gw_iret M hr hlo hI d_Gp_unpack_137 rfl
    · refine lv_bipush (v := (-6)) hx hb d_Gp_unpack_110 (by decide) ?_
      exact gw_iret M hr hlo hI d_Gp_unpack_112 rfl
  · refine lv_bipush (v := (-5)) hx hb d_Gp_unpack_101 (by decide) ?_
    exact gw_iret M hr hlo hI d_Gp_unpack_103 rfl

abbrev rm_Gp_open : Room := { frames := 6, cells := 0, slots := 0, locals := 152 }
set_option maxHeartbeats 4000000 in
set_option maxRecDepth 100000 in
theorem c_Gp_open (l : Launch) {D : gw_D} {Hs : Heap} {G : gw_G} (A : Nat → Nat → Nat) (pm : Nat → Nat) (cnt fd : Nat) (tt xt li : Nat → Int32) (la : Nat → Int64) (hC : cls D G A pm cnt fd tt xt li la)  : Met l y_Gp_open (Cond.code y_Gp_open b_Gp_open 6 (some .int) :: tb) rm_Gp_open (gw_Pc D Hs G [.ref (A 0 0)]) (gw_Qi D Hs (fun _ G1 => G1 = G)) 0 0 (gw_A Hs) := by
  refine gw_met (by decide) (Nat.le_of_ble_eq_true rfl) ?_
  intro p e s m args below meth c M hK hr hlo hin hI ls hl
  have hx := M.1
  have hb := M.2.1
  have hl : lv_has ls 6 [(0, .ref (A 0 0))] := hl
  refine lv_aload_n hx hb d_Gp_open_0 rfl (lv_at hl 0 rfl) ?_
  refine gw_get M hK hI hC.O i_Gp rfl 3 (by decide) f_Gp_28 rfl (Pv := fun v => v = .ref (A 3 0)) (fun x hx => ⟨_, _, hx, rfl, rfl⟩) d_Gp_open_1 (fun v hv => ?_)
  subst hv
  refine gw_get M hK hI hC.sent i_Ro rfl 1 (by decide) f_Gp_87 rfl (Pv := fun v => ∃ x9 : Int32, v = .int x9 ∧ (∃ k, k ≤ 236 ∧ x9 = nI k)) (fun x hx => by obtain ⟨u1, u2, h_u1, h_u2, q9⟩ := hx; exact ⟨_, _, q9, rfl, _, rfl, h_u1⟩) d_Gp_open_4 (fun v hv => ?_)
  obtain ⟨x1, rfl, h_x1⟩ := hv
  refine lv_bipush (v := 36) hx hb d_Gp_open_7 (by decide) ?_
  refine lv_icmp_lt (tgt := 24) hx hb d_Gp_open_9 (by decide) (fun c_9 => ?_) (fun c_9 => ?_)
  · refine lv_iconst (v := (-1)) hx hb d_Gp_open_24 (by decide) ?_
    exact gw_iret M hr hlo hI d_Gp_open_25 rfl
  · refine lv_aload_n hx hb d_Gp_open_12 rfl (lv_at hl 0 rfl) ?_
    refine gw_get M hK hI hC.O i_Gp rfl 3 (by decide) f_Gp_28 rfl (Pv := fun v => v = .ref (A 3 0)) (fun x hx => ⟨_, _, hx, rfl, rfl⟩) d_Gp_open_13 (fun v hv => ?_)
    subst hv
    refine gw_get M hK hI hC.sent i_Ro rfl 1 (by decide) f_Gp_87 rfl (Pv := fun v => ∃ x9 : Int32, v = .int x9 ∧ (∃ k, k ≤ 236 ∧ x9 = nI k)) (fun x hx => by obtain ⟨u1, u2, h_u1, h_u2, q9⟩ := hx; exact ⟨_, _, q9, rfl, _, rfl, h_u1⟩) d_Gp_open_16 (fun v hv => ?_)
    obtain ⟨x2, rfl, h_x2⟩ := hv
    refine lv_iconst (v := 4) hx hb d_Gp_open_19 (by decide) ?_
    refine lv_irem hx hb d_Gp_open_20 (by decide) ?_
    refine lv_if_eq (tgt := 26) hx hb d_Gp_open_21 (by decide) (fun c_21 => ?_) (fun c_21 => ?_)
    · refine lv_aload_n hx hb d_Gp_open_26 rfl (lv_at hl 0 rfl) ?_
      refine gw_get M hK hI hC.O i_Gp rfl 3 (by decide) f_Gp_28 rfl (Pv := fun v => v = .ref (A 3 0)) (fun x hx => ⟨_, _, hx, rfl, rfl⟩) d_Gp_open_27 (fun v hv => ?_)
      subst hv
      refine lv_iconst (v := 0) hx hb d_Gp_open_30 (by decide) ?_
      refine lv_iconst (v := 4) hx hb d_Gp_open_31 (by decide) ?_
      refine gw_Vl (As := [.int 0, .int 4]) (rest := []) M hK hI (c_Ro_number l (0 : Int32) (4 : Int32) (by decide) (A 3 0) (A 9 0) 236 (by decide) hC.sent isRw_Ro hC.sq) k_Ro_number m_Gp_151 hC.sent (ci := 3) rfl (fun x hx => by obtain ⟨u1, u2, h_u1, h_u2, q9⟩ := hx; exact ⟨_, q9⟩) rfl hl.1 rfl (Nat.le_of_ble_eq_true rfl) ⟨rfl, rfl, ⟨Nat.le_of_ble_eq_true rfl, Nat.le_of_ble_eq_true rfl⟩, ⟨Nat.le_of_ble_eq_true rfl, Nat.le_of_ble_eq_true rfl⟩⟩ d_Gp_open_32 (fun x3 G9 H locs hw hI => ?_)
      rw [hw] at hI
      refine lv_l2i hx hb d_Gp_open_35 rfl ?_
      refine lv_topi (fun x4 e_x4 => ?_)
      refine lv_istore_n (lv' := [(1, .int x4), (0, .ref (A 0 0))]) hx hb d_Gp_open_36 rfl hl (by decide) rfl (fun ls hl => ?_)
      obtain ⟨kp, hkp⟩ := isPl.ex (fun j => tt (pm j)) x4 cnt
      by_cases hat : kp < cnt ∧ tt (pm kp) = x4
      · have hl16 : kp < 16 := Nat.lt_of_lt_of_le hat.1 hC.c16
        have hi : pm kp < 16 := hC.pmb hl16
        refine lv_aload_n hx hb d_Gp_open_37 rfl (lv_at hl 1 rfl) ?_
        refine lv_iload_n hx hb d_Gp_open_38 rfl (lv_at hl 0 rfl) ?_
        refine gp_V (As := [.int x4]) (rest := []) M hK hI (c_Gp_placeOf l A pm cnt fd tt xt li la hC x4 kp hkp) k_Gp_placeOf m_Gp_56 hC.O (ci := 5) rfl (fun x hx => ⟨_, hx⟩) rfl hl.1 rfl (Nat.le_of_ble_eq_true rfl) ⟨rfl, rfl, ⟨Nat.le_of_ble_eq_true rfl, Nat.le_of_ble_eq_true rfl⟩, ⟨Nat.le_of_ble_eq_true rfl, Nat.le_of_ble_eq_true rfl⟩⟩ d_Gp_open_39 (fun x5 h_x5 => ?_)
        subst h_x5
        refine lv_istore_n (lv' := [(2, .int (nI kp)), (1, .int x4), (0, .ref (A 0 0))]) hx hb d_Gp_open_42 rfl hl (by decide) rfl (fun ls hl => ?_)
        refine lv_aload_n hx hb d_Gp_open_43 rfl (lv_at hl 2 rfl) ?_
        refine lv_iload_n hx hb d_Gp_open_44 rfl (lv_at hl 0 rfl) ?_
        refine lv_iload_n hx hb d_Gp_open_45 rfl (lv_at hl 1 rfl) ?_
        refine gp_V (As := [.int (nI kp), .int x4]) (rest := []) M hK hI (c_Gp_isAt l A pm cnt fd tt xt li la hC kp (Nat.le_trans hkp.1 hC.c16) x4) k_Gp_isAt m_Gp_60 hC.O (ci := 5) rfl (fun x hx => ⟨_, hx⟩) rfl hl.1 rfl (Nat.le_of_ble_eq_true rfl) ⟨rfl, rfl, ⟨Nat.le_of_ble_eq_true rfl, Nat.le_of_ble_eq_true rfl⟩, ⟨Nat.le_of_ble_eq_true rfl, Nat.le_of_ble_eq_true rfl⟩⟩ d_Gp_open_46 (fun x6 h_x6 => ?_)
        have h_x6 := h_x6.1 hat
        subst h_x6
        refine lv_if_ne (tgt := 55) hx hb d_Gp_open_49 (by decide) (fun c_49 => ?_) (fun q9 => absurd q9 (by decide))
        refine lv_aload_n hx hb d_Gp_open_55 rfl (lv_at hl 2 rfl) ?_
        refine gw_get M hK hI hC.O i_Gp rfl 0 (by decide) f_Gp_11 rfl (Pv := fun v => v = .ref (A 1 0)) (fun x hx => ⟨_, _, hx, rfl, rfl⟩) d_Gp_open_56 (fun v hv => ?_)
        subst hv
        refine lv_iload_n hx hb d_Gp_open_59 rfl (lv_at hl 0 rfl) ?_
        refine gw_aald M hK hI 4 rfl hC.arr (vp_in_nI hl16 (by decide)) d_Gp_open_60 (fun r7 h_r7 => ?_)
        rw [nI_clamp (Nat.lt_trans hl16 (by decide))] at h_r7
        subst h_r7
        refine lv_astore_n (lv' := [(3, .ref (A 12 (pm kp))), (2, .int (nI kp)), (1, .int x4), (0, .ref (A 0 0))]) hx hb d_Gp_open_61 rfl hl (by decide) rfl (fun ls hl => ?_)
        refine lv_aload_n hx hb d_Gp_open_62 rfl (lv_at hl 0 rfl) ?_
        refine lv_aload_n hx hb d_Gp_open_63 rfl (lv_at hl 3 rfl) ?_
        refine gw_get M hK hI hC.O i_Gp rfl 3 (by decide) f_Gp_28 rfl (Pv := fun v => v = .ref (A 3 0)) (fun x hx => ⟨_, _, hx, rfl, rfl⟩) d_Gp_open_64 (fun v hv => ?_)
        subst hv
        refine lv_iconst (v := 4) hx hb d_Gp_open_67 (by decide) ?_
        refine lv_iconst (v := 4) hx hb d_Gp_open_68 (by decide) ?_
        refine gw_Vl (As := [.int 4, .int 4]) (rest := [.ref (A 12 (pm kp))]) M hK hI (c_Ro_number l (4 : Int32) (4 : Int32) (by decide) (A 3 0) (A 9 0) 236 (by decide) hC.sent isRw_Ro hC.sq) k_Ro_number m_Gp_151 hC.sent (ci := 3) rfl (fun x hx => by obtain ⟨u1, u2, h_u1, h_u2, q9⟩ := hx; exact ⟨_, q9⟩) rfl hl.1 rfl (Nat.le_of_ble_eq_true rfl) ⟨rfl, rfl, ⟨Nat.le_of_ble_eq_true rfl, Nat.le_of_ble_eq_true rfl⟩, ⟨Nat.le_of_ble_eq_true rfl, Nat.le_of_ble_eq_true rfl⟩⟩ d_Gp_open_69 (fun x8 G9 H locs hw hI => ?_)
        rw [hw] at hI
        refine gw_Vl (As := [.long x8]) (rest := []) M hK hI (c_As_fullNumber l x8 (A 12 (pm kp)) (A 13 (pm kp)) (A 15 (pm kp)) (tt (pm kp)) (xt (pm kp)) (la (pm kp)) (li (pm kp)) (hC.as hi) (A 16 (pm kp)) (hC.wi hi) (hC.bi hi)) k_As_fullNumber m_Gp_155 (hC.as hi) (ci := 0) rfl (fun x hx => by obtain ⟨u3, u5, u6, u9, v1, v2, q9⟩ := hx; exact ⟨_, q9⟩) rfl hl.1 rfl (Nat.le_of_ble_eq_true rfl) ⟨rfl, rfl, ⟨Nat.le_of_ble_eq_true rfl, Nat.le_of_ble_eq_true rfl⟩, ⟨Nat.le_of_ble_eq_true rfl, Nat.le_of_ble_eq_true rfl⟩⟩ d_Gp_open_72 (fun x9 G9 H locs hw hI => ?_)
        rw [hw] at hI
        refine lv_lstore (lv' := [(4, .long x9), (3, .ref (A 12 (pm kp))), (2, .int (nI kp)), (1, .int x4), (0, .ref (A 0 0))]) hx hb d_Gp_open_75 hl (by decide) rfl (fun ls hl => ?_)
        refine lv_aload_n hx hb d_Gp_open_77 rfl (lv_at hl 1 rfl) ?_
        refine lv_lload hx hb d_Gp_open_78 (lv_at hl 0 rfl) ?_
        refine gw_Vi (As := [.long x9]) (rest := []) M hK hI (c_As_mayGiveOut l x9 (A 12 (pm kp)) (A 13 (pm kp)) (A 15 (pm kp)) (tt (pm kp)) (xt (pm kp)) (la (pm kp)) (li (pm kp)) (hC.as hi) (A 16 (pm kp)) (hC.wi hi) (hC.bi hi)) k_As_mayGiveOut m_Gp_159 (hC.as hi) (ci := 0) rfl (fun x hx => by obtain ⟨u3, u5, u6, u9, v1, v2, q9⟩ := hx; exact ⟨_, q9⟩) rfl hl.1 rfl (Nat.le_of_ble_eq_true rfl) ⟨rfl, rfl, ⟨Nat.le_of_ble_eq_true rfl, Nat.le_of_ble_eq_true rfl⟩, ⟨Nat.le_of_ble_eq_true rfl, Nat.le_of_ble_eq_true rfl⟩⟩ d_Gp_open_80 (fun x10 G9 H locs hw hI => ?_)
        rw [hw] at hI
        refine lv_if_ne (tgt := 99) hx hb d_Gp_open_83 (by decide) (fun c_83 => ?_) (fun c_83 => ?_)
        · refine lv_aload_n hx hb d_Gp_open_99 rfl (lv_at hl 4 rfl) ?_
          refine lv_aload_n hx hb d_Gp_open_100 rfl (lv_at hl 1 rfl) ?_
          refine lv_lload hx hb d_Gp_open_101 (lv_at hl 0 rfl) ?_
          refine gw_Vi (As := [.ref (A 12 (pm kp)), .long x9]) (rest := []) M hK hI (c_Gp_isSealRight l A pm cnt fd tt xt li la hC (pm kp) hi x9) k_Gp_isSealRight m_Gp_166 hC.O (ci := 5) rfl (fun x hx => ⟨_, hx⟩) rfl hl.1 rfl (Nat.le_of_ble_eq_true rfl) ⟨rfl, rfl, ⟨Nat.le_of_ble_eq_true rfl, Nat.le_of_ble_eq_true rfl⟩, ⟨Nat.le_of_ble_eq_true rfl, Nat.le_of_ble_eq_true rfl⟩⟩ d_Gp_open_103 (fun x11 G9 H locs hw hI => ?_)
          rw [hw] at hI
          refine lv_if_ne (tgt := 122) hx hb d_Gp_open_106 (by decide) (fun c_106 => ?_) (fun c_106 => ?_)
          · refine lv_aload_n hx hb d_Gp_open_122 rfl (lv_at hl 1 rfl) ?_
            refine lv_lload hx hb d_Gp_open_123 (lv_at hl 0 rfl) ?_
            refine gw_Vv (As := [.long x9]) (rest := []) M hK hI (c_As_giveOut l x9 (A 12 (pm kp)) (A 13 (pm kp)) (A 15 (pm kp)) (tt (pm kp)) (xt (pm kp)) (la (pm kp)) (li (pm kp)) (hC.as hi) (A 16 (pm kp)) (hC.wi hi) (hC.bi hi)) k_As_giveOut m_Gp_173 (hC.as hi) (ci := 0) rfl (fun x hx => by obtain ⟨u3, u5, u6, u9, v1, v2, q9⟩ := hx; exact ⟨_, q9⟩) rfl hl.1 rfl (Nat.le_of_ble_eq_true rfl) ⟨rfl, rfl, ⟨Nat.le_of_ble_eq_true rfl, Nat.le_of_ble_eq_true rfl⟩, ⟨Nat.le_of_ble_eq_true rfl, Nat.le_of_ble_eq_true rfl⟩⟩ d_Gp_open_125 (fun G9 H locs hw hI => ?_)
            rw [hw] at hI
            refine lv_aload_n hx hb d_Gp_open_128 rfl (lv_at hl 4 rfl) ?_
            refine lv_aload_n hx hb d_Gp_open_129 rfl (lv_at hl 1 rfl) ?_
            refine gw_Vi (As := [.ref (A 12 (pm kp))]) (rest := []) M hK hI (c_Gp_unpack l A pm cnt fd tt xt li la hC (pm kp) hi) k_Gp_unpack m_Gp_177 hC.O (ci := 5) rfl (fun x hx => ⟨_, hx⟩) rfl hl.1 rfl (Nat.le_of_ble_eq_true rfl) ⟨rfl, rfl, ⟨Nat.le_of_ble_eq_true rfl, Nat.le_of_ble_eq_true rfl⟩, ⟨Nat.le_of_ble_eq_true rfl, Nat.le_of_ble_eq_true rfl⟩⟩ d_Gp_open_130 (fun x13 G9 H locs hw hI => ?_)
            rw [hw] at hI
            exact gw_iret M hr hlo hI d_Gp_open_133 rfl
          · refine lv_aload_n hx hb d_Gp_open_109 rfl (lv_at hl 1 rfl) ?_
            refine lv_dup hx hb d_Gp_open_110 rfl ?_
            refine gw_get M hK hI (hC.as hi) i_As rfl 11 (by decide) f_Gp_170 rfl (Pv := fun v => ∃ x9 : Int64, v = .long x9) (fun x hx => by obtain ⟨u3, u5, u6, u9, v1, v2, q9⟩ := hx; exact ⟨_, _, q9, rfl, _, rfl⟩) d_Gp_open_111 (fun v hv => ?_)
            obtain ⟨x14, rfl⟩ := hv
            refine lv_lconst (v := 1) hx hb d_Gp_open_114 (by decide) ?_
            refine lv_ladd hx hb d_Gp_open_115 ?_
            refine lv_topl (fun x15 e_x15 => ?_)
            refine gw_put M hK hI (hC.as hi) i_As t_As tk_As n_As rfl 11 (by decide) f_Gp_170 rfl rfl rfl (kAp (A 13 (pm kp)) (A 15 (pm kp)) (tt (pm kp)) (xt (pm kp)) (la (pm kp)) (li (pm kp))) (fun x hx => by obtain ⟨u3, u5, u6, u9, v1, v2, q9⟩ := hx; exact ⟨_, q9, Nat.le_of_ble_eq_true rfl, ⟨u3, u5, u6, u9, v1, _, rfl⟩⟩) d_Gp_open_116 (fun H locs hI => ?_)
            rw [gw_up_id (hC.as hi)] at hI
            refine lv_bipush (v := (-4)) hx hb d_Gp_open_119 (by decide) ?_
            exact gw_iret M hr hlo hI d_Gp_open_121 rfl
        · refine lv_aload_n hx hb d_Gp_open_86 rfl (lv_at hl 1 rfl) ?_
          refine lv_dup hx hb d_Gp_open_87 rfl ?_
          refine gw_get M hK hI (hC.as hi) i_As rfl 10 (by decide) f_Gp_163 rfl (Pv := fun v => ∃ x9 : Int64, v = .long x9) (fun x hx => by obtain ⟨u3, u5, u6, u9, v1, v2, q9⟩ := hx; exact ⟨_, _, q9, rfl, _, rfl⟩) d_Gp_open_88 (fun v hv => ?_)
          obtain ⟨x16, rfl⟩ := hv
          refine lv_lconst (v := 1) hx hb d_Gp_open_91 (by decide) ?_
          refine lv_ladd hx hb d_Gp_open_92 ?_
          refine lv_topl (fun x17 e_x17 => ?_)
          refine gw_put M hK hI (hC.as hi) i_As t_As tk_As n_As rfl 10 (by decide) f_Gp_163 rfl rfl rfl (kAp (A 13 (pm kp)) (A 15 (pm kp)) (tt (pm kp)) (xt (pm kp)) (la (pm kp)) (li (pm kp))) (fun x hx => by obtain ⟨u3, u5, u6, u9, v1, v2, q9⟩ := hx; exact ⟨_, q9, Nat.le_of_ble_eq_true rfl, ⟨u3, u5, u6, u9, _, v2, rfl⟩⟩) d_Gp_open_93 (fun H locs hI => ?_)
          rw [gw_up_id (hC.as hi)] at hI
          refine lv_bipush (v := (-3)) hx hb d_Gp_open_96 (by decide) ?_
          exact gw_iret M hr hlo hI d_Gp_open_98 rfl
      · have hl16 := hat
        refine lv_aload_n hx hb d_Gp_open_37 rfl (lv_at hl 1 rfl) ?_
        refine lv_iload_n hx hb d_Gp_open_38 rfl (lv_at hl 0 rfl) ?_
        refine gp_V (As := [.int x4]) (rest := []) M hK hI (c_Gp_placeOf l A pm cnt fd tt xt li la hC x4 kp hkp) k_Gp_placeOf m_Gp_56 hC.O (ci := 5) rfl (fun x hx => ⟨_, hx⟩) rfl hl.1 rfl (Nat.le_of_ble_eq_true rfl) ⟨rfl, rfl, ⟨Nat.le_of_ble_eq_true rfl, Nat.le_of_ble_eq_true rfl⟩, ⟨Nat.le_of_ble_eq_true rfl, Nat.le_of_ble_eq_true rfl⟩⟩ d_Gp_open_39 (fun x18 h_x18 => ?_)
        subst h_x18
        refine lv_istore_n (lv' := [(2, .int (nI kp)), (1, .int x4), (0, .ref (A 0 0))]) hx hb d_Gp_open_42 rfl hl (by decide) rfl (fun ls hl => ?_)
        refine lv_aload_n hx hb d_Gp_open_43 rfl (lv_at hl 2 rfl) ?_
        refine lv_iload_n hx hb d_Gp_open_44 rfl (lv_at hl 0 rfl) ?_
        refine lv_iload_n hx hb d_Gp_open_45 rfl (lv_at hl 1 rfl) ?_
        refine gp_V (As := [.int (nI kp), .int x4]) (rest := []) M hK hI (c_Gp_isAt l A pm cnt fd tt xt li la hC kp (Nat.le_trans hkp.1 hC.c16) x4) k_Gp_isAt m_Gp_60 hC.O (ci := 5) rfl (fun x hx => ⟨_, hx⟩) rfl hl.1 rfl (Nat.le_of_ble_eq_true rfl) ⟨rfl, rfl, ⟨Nat.le_of_ble_eq_true rfl, Nat.le_of_ble_eq_true rfl⟩, ⟨Nat.le_of_ble_eq_true rfl, Nat.le_of_ble_eq_true rfl⟩⟩ d_Gp_open_46 (fun x19 h_x19 => ?_)
        have h_x19 := h_x19.2 hat
        subst h_x19
        refine lv_if_ne (tgt := 55) hx hb d_Gp_open_49 (by decide) (fun q9 => absurd (by decide) q9) (fun c_49 => ?_)
        refine lv_bipush (v := (-2)) hx hb d_Gp_open_52 (by decide) ?_
        exact gw_iret M hr hlo hI d_Gp_open_54 rfl
    · refine lv_iconst (v := (-1)) hx hb d_Gp_open_24 (by decide) ?_
      exact gw_iret M hr hlo hI d_Gp_open_25 rfl

abbrev rm_Ro_appende : Room := { frames := 0, cells := 0, slots := 0, locals := 0 }
set_option maxHeartbeats 4000000 in
set_option maxRecDepth 100000 in
theorem c_Ro_appende (l : Launch) {D : gw_D} {Hs : Heap} {G : gw_G} (a q k n : Nat) (x0 t0 : Int32) (hk : k < n) (hn : n < 1000) (h1 : G a = some (kx (.inr (3, [.ref q, .int (nI k), .int t0])))) (h2 : G q = some (kA D 1 n tT)) : Met l y_Ro_append (Cond.code y_Ro_append b_Ro_append 2 none :: tb) rm_Ro_appende (gw_Pc D Hs G [.ref a, .int x0]) (gw_Qv D Hs (fun G1 => G1 = gw_up G a (kx (.inr (3, [.ref q, .int (nI (k + 1)), .int t0]))))) 0 0 (gw_A Hs) := by
  refine gw_met (by decide) (Nat.le_of_ble_eq_true rfl) ?_
  intro p e s m args below meth c M hK hr hlo hin hI ls hl
  have hx := M.1
  have hb := M.2.1
  have hl : lv_has ls 2 [(0, .ref a), (1, .int x0)] := hl
  have hI0 := hI
  refine lv_aload_n hx hb d_Ro_append_0 rfl (lv_at hl 0 rfl) ?_
  refine gw_get M hK hI h1 i_Ro rfl 1 (by decide) f_Ro_7 rfl (Pv := fun v => v = .int (nI k)) (fun x hx => ⟨_, _, hx, rfl, rfl⟩) d_Ro_append_1 (fun v hv => ?_)
  subst hv
  refine lv_aload_n hx hb d_Ro_append_4 rfl (lv_at hl 0 rfl) ?_
  refine gw_get M hK hI h1 i_Ro rfl 0 (by decide) f_Ro_17 rfl (Pv := fun v => v = .ref q) (fun x hx => ⟨_, _, hx, rfl, rfl⟩) d_Ro_append_5 (fun v hv => ?_)
  subst hv
  refine gw_alen M hK hI h2 1 n rfl (fun x hx => by obtain ⟨f9, h9, q9⟩ := hx; exact ⟨_, q9⟩) d_Ro_append_8 ?_
  refine lv_icmp_ge (tgt := 33) hx hb d_Ro_append_9 (by decide) (fun q9 => absurd q9 (nI_ge hk (by omega))) (fun c_9 => ?_)
  refine lv_aload_n hx hb d_Ro_append_12 rfl (lv_at hl 0 rfl) ?_
  refine gw_get M hK hI h1 i_Ro rfl 0 (by decide) f_Ro_17 rfl (Pv := fun v => v = .ref q) (fun x hx => ⟨_, _, hx, rfl, rfl⟩) d_Ro_append_13 (fun v hv => ?_)
  subst hv
  refine lv_aload_n hx hb d_Ro_append_16 rfl (lv_at hl 0 rfl) ?_
  refine gw_get M hK hI h1 i_Ro rfl 1 (by decide) f_Ro_7 rfl (Pv := fun v => v = .int (nI k)) (fun x hx => ⟨_, _, hx, rfl, rfl⟩) d_Ro_append_17 (fun v hv => ?_)
  subst hv
  refine lv_iload_n hx hb d_Ro_append_20 rfl (lv_at hl 1 rfl) ?_
  refine lv_i2b hx hb d_Ro_append_21 rfl ?_
  refine lv_topi (fun x1 e_x1 => ?_)
  refine gw_bast M hK hI h2 (vp_in_nI hk (by omega)) trivial d_Ro_append_22 (fun H locs hI => ?_)
  refine lv_aload_n hx hb d_Ro_append_23 rfl (lv_at hl 0 rfl) ?_
  refine lv_dup hx hb d_Ro_append_24 rfl ?_
  refine gw_get M hK hI h1 i_Ro rfl 1 (by decide) f_Ro_7 rfl (Pv := fun v => v = .int (nI k)) (fun x hx => ⟨_, _, hx, rfl, rfl⟩) d_Ro_append_25 (fun v hv => ?_)
  subst hv
  refine lv_iconst (v := 1) hx hb d_Ro_append_28 (by decide) ?_
  refine lv_iadd hx hb d_Ro_append_29 ?_
  refine lv_topi (fun x2 e_x2 => ?_)
  refine gw_put M hK hI h1 i_Ro t_Ro tk_Ro n_Ro rfl 1 (by decide) f_Ro_7 rfl rfl rfl (kx (.inr (3, [.ref q, .int x2, .int t0]))) (fun x hx => ⟨_, hx, Nat.le_of_ble_eq_true rfl, rfl⟩) d_Ro_append_30 (fun H locs hI => ?_)
  obtain ⟨G3, hE_G3⟩ : ∃ z9, gw_up G a (kx (.inr (3, [.ref q, .int x2, .int t0]))) = z9 := ⟨_, rfl⟩
  rw [hE_G3] at hI
  have hG5 : G3 a = some (kx (.inr (3, [.ref q, .int x2, .int t0]))) := by rw [← hE_G3]; exact gw_up_s
  have hs4 : gw_fr (fun b => b = a) G G3 := by rw [← hE_G3]; exact gw_fr.up rfl
  exact gw_vret M hr hlo hI d_Ro_append_33 (by rw [← hE_G3, e_x2, nI_1])

abbrev rm_Ro_shortene : Room := { frames := 0, cells := 0, slots := 0, locals := 0 }
set_option maxHeartbeats 4000000 in
set_option maxRecDepth 100000 in
theorem c_Ro_shortene (l : Launch) {D : gw_D} {Hs : Heap} {G : gw_G} (a q k : Nat) (t0 : Int32) (hk : k < 1000) (h1 : G a = some (kx (.inr (3, [.ref q, .int (nI k), .int t0])))) : Met l y_Ro_shorten (Cond.code y_Ro_shorten b_Ro_shorten 2 none :: tb) rm_Ro_shortene (gw_Pc D Hs G [.ref a, .int 0]) (gw_Qv D Hs (fun G1 => G1 = gw_up G a (kx (.inr (3, [.ref q, .int (nI 0), .int t0]))))) 0 0 (gw_A Hs) := by
  refine gw_met (by decide) (Nat.le_of_ble_eq_true rfl) ?_
  intro p e s m args below meth c M hK hr hlo hin hI ls hl
  have hx := M.1
  have hb := M.2.1
  have hl : lv_has ls 2 [(0, .ref a), (1, .int 0)] := hl
  have hI0 := hI
  refine lv_iload_n hx hb d_Ro_shorten_0 rfl (lv_at hl 1 rfl) ?_
  refine lv_if_lt (tgt := 17) hx hb d_Ro_shorten_1 (by decide) (fun q9 => absurd q9 (by decide)) (fun c_1 => ?_)
  refine lv_iload_n hx hb d_Ro_shorten_4 rfl (lv_at hl 1 rfl) ?_
  refine lv_aload_n hx hb d_Ro_shorten_5 rfl (lv_at hl 0 rfl) ?_
  refine gw_get M hK hI h1 i_Ro rfl 1 (by decide) f_Ro_7 rfl (Pv := fun v => v = .int (nI k)) (fun x hx => ⟨_, _, hx, rfl, rfl⟩) d_Ro_shorten_6 (fun v hv => ?_)
  subst hv
  refine lv_icmp_ge (tgt := 17) hx hb d_Ro_shorten_9 (by decide) (fun c_9 => ?_) (fun c_9 => ?_)
  · have hk0 : k = 0 := Nat.le_zero.mp (by have h9 := Int32.le_iff_toInt_le.mp c_9; rw [nI_toInt (Nat.lt_trans hk (by decide))] at h9; have e0 : (0 : Int32).toInt = 0 := rfl; omega)
    subst hk0
    exact gw_vret M hr hlo hI d_Ro_shorten_17 ((gw_up_id h1).symm)
  · refine lv_aload_n hx hb d_Ro_shorten_12 rfl (lv_at hl 0 rfl) ?_
    refine lv_iload_n hx hb d_Ro_shorten_13 rfl (lv_at hl 1 rfl) ?_
    refine gw_put M hK hI h1 i_Ro t_Ro tk_Ro n_Ro rfl 1 (by decide) f_Ro_7 rfl rfl rfl (kx (.inr (3, [.ref q, .int 0, .int t0]))) (fun x hx => ⟨_, hx, Nat.le_of_ble_eq_true rfl, rfl⟩) d_Ro_shorten_14 (fun H locs hI => ?_)
    obtain ⟨G1, hE_G1⟩ : ∃ z9, gw_up G a (kx (.inr (3, [.ref q, .int 0, .int t0]))) = z9 := ⟨_, rfl⟩
    rw [hE_G1] at hI
    have hG3 : G1 a = some (kx (.inr (3, [.ref q, .int 0, .int t0]))) := by rw [← hE_G1]; exact gw_up_s
    have hs2 : gw_fr (fun b => b = a) G G1 := by rw [← hE_G1]; exact gw_fr.up rfl
    exact gw_vret M hr hlo hI d_Ro_shorten_17 (by rw [← hE_G1]; rfl)

abbrev rm_Gp_wipe : Room := { frames := 1, cells := 0, slots := 0, locals := 21 }
set_option maxHeartbeats 4000000 in
set_option maxRecDepth 100000 in
theorem c_Gp_wipe (l : Launch) {D : gw_D} {Hs : Heap} {G : gw_G} (A : Nat → Nat → Nat) (pm : Nat → Nat) (cnt fd : Nat) (tt xt li : Nat → Int32) (la : Nat → Int64) (hC : cls D G A pm cnt fd tt xt li la)  : Met l y_Gp_wipe (Cond.code y_Gp_wipe b_Gp_wipe 2 (some .int) :: tb) rm_Gp_wipe (gw_Pc D Hs G [.ref (A 0 0)]) (gw_Qi D Hs (fun r G1 => r = nI fd ∧ G1 = gw_up G (A 2 0) (kFe (A 8 0) 0))) 0 0 (gw_A Hs) := by
  refine gw_met (by decide) (Nat.le_of_ble_eq_true rfl) ?_
  intro p e s m args below meth c M hK hr hlo hin hI ls hl
  have hx := M.1
  have hb := M.2.1
  have hl : lv_has ls 2 [(0, .ref (A 0 0))] := hl
  refine lv_aload_n hx hb d_Gp_wipe_0 rfl (lv_at hl 0 rfl) ?_
  refine gw_get M hK hI hC.O i_Gp rfl 2 (by decide) f_Gp_24 rfl (Pv := fun v => v = .ref (A 2 0)) (fun x hx => ⟨_, _, hx, rfl, rfl⟩) d_Gp_wipe_1 (fun v hv => ?_)
  subst hv
  refine gw_get M hK hI hC.fed i_Ro rfl 1 (by decide) f_Gp_87 rfl (Pv := fun v => v = .int (nI fd)) (fun x hx => ⟨_, _, hx, rfl, rfl⟩) d_Gp_wipe_4 (fun v hv => ?_)
  subst hv
  refine lv_istore_n (lv' := [(1, .int (nI fd)), (0, .ref (A 0 0))]) hx hb d_Gp_wipe_7 rfl hl (by decide) rfl (fun ls hl => ?_)
  refine lv_aload_n hx hb d_Gp_wipe_8 rfl (lv_at hl 1 rfl) ?_
  refine gw_get M hK hI hC.O i_Gp rfl 2 (by decide) f_Gp_24 rfl (Pv := fun v => v = .ref (A 2 0)) (fun x hx => ⟨_, _, hx, rfl, rfl⟩) d_Gp_wipe_9 (fun v hv => ?_)
  subst hv
  refine lv_iconst (v := 0) hx hb d_Gp_wipe_12 (by decide) ?_
  refine gw_Vv (As := [.int 0]) (rest := []) M hK hI (c_Ro_shortene l (A 2 0) (A 8 0) fd 0 (Nat.lt_of_le_of_lt hC.f200 (by decide)) hC.fed) k_Ro_shorten m_Gp_93 hC.fed (ci := 3) rfl (fun x hx => ⟨_, hx⟩) rfl hl.1 rfl (Nat.le_of_ble_eq_true rfl) ⟨rfl, rfl, ⟨Nat.le_of_ble_eq_true rfl, Nat.le_of_ble_eq_true rfl⟩, ⟨Nat.le_of_ble_eq_true rfl, Nat.le_of_ble_eq_true rfl⟩⟩ d_Gp_wipe_13 (fun G1 H locs hw hI => ?_)
  refine lv_iload_n hx hb d_Gp_wipe_16 rfl (lv_at hl 0 rfl) ?_
  exact gw_iret M hr hlo hI d_Gp_wipe_17 (⟨rfl, hw⟩)

theorem feed_1 {n : Nat} (h1 : 1 ≤ n) (h8 : n ≤ 8) : ¬ nI n < 1 := fun q => by
  rw [Int32.lt_iff_toInt_lt, nI_toInt (by omega)] at q
  have e1 : (1 : Int32).toInt = 1 := rfl
  omega
theorem feed_2 {f n : Nat} {x : Int32} (hf : f ≤ 200) (h8 : n ≤ 8) (hn : x = nI n) (c : nI f + x ≤ 200) : f + n ≤ 200 := by
  rw [hn, nI_add, Int32.le_iff_toInt_le, nI_toInt (by omega)] at c
  have e1 : (200 : Int32).toInt = 200 := rfl
  omega
theorem feed_3 {f n : Nat} {x : Int32} (hf : f ≤ 200) (h8 : n ≤ 8) (hn : x = nI n) (c : ¬ nI f + x ≤ 200) : 200 < f + n := by
  rw [hn, nI_add, Int32.le_iff_toInt_le, nI_toInt (by omega)] at c
  have e1 : (200 : Int32).toInt = 200 := rfl
  omega

abbrev rm_Gp_feed : Room := { frames := 1, cells := 0, slots := 0, locals := 21 }
set_option maxHeartbeats 4000000 in
set_option maxRecDepth 100000 in
theorem c_Gp_feed (l : Launch) {D : gw_D} {Hs : Heap} {G : gw_G} (A : Nat → Nat → Nat) (pm : Nat → Nat) (cnt fd : Nat) (tt xt li : Nat → Int32) (la : Nat → Int64) (hC : cls D G A pm cnt fd tt xt li la) (n1 : Int32) (n2 : Int64) (n : Nat) (hn : 1 ≤ n ∧ n ≤ 8 ∧ n1 = nI n) : Met l y_Gp_feed (Cond.code y_Gp_feed b_Gp_feed 5 (some .int) :: tb) rm_Gp_feed (gw_Pc D Hs G [.ref (A 0 0), .int n1, .long n2]) (gw_Qi D Hs (fun r G1 => (200 < fd + n → r = -1 ∧ G1 = G) ∧ (fd + n ≤ 200 → r = nI (fd + n) ∧ G1 = gw_up G (A 2 0) (kFe (A 8 0) (fd + n))))) 0 0 (gw_A Hs) := by
  refine gw_met (by decide) (Nat.le_of_ble_eq_true rfl) ?_
  intro p e s m args below meth c M hK hr hlo hin hI ls hl
  have hx := M.1
  have hb := M.2.1
  have hl : lv_has ls 5 [(0, .ref (A 0 0)), (1, .int n1), (2, .long n2)] := hl
  obtain ⟨hn1, hn8, hn⟩ := hn
  have hf := hC.f200
  have hI0 := hI
  refine lv_iload_n hx hb d_Gp_feed_0 rfl (lv_at hl 1 rfl) ?_
  refine lv_iconst (v := 1) hx hb d_Gp_feed_1 (by decide) ?_
  refine lv_icmp_lt (tgt := 11) hx hb d_Gp_feed_2 (by decide) (fun q9 => absurd q9 (by rw [hn]; exact feed_1 hn1 hn8)) (fun c_2 => ?_)
  refine lv_iload_n hx hb d_Gp_feed_5 rfl (lv_at hl 1 rfl) ?_
  refine lv_bipush (v := 8) hx hb d_Gp_feed_6 (by decide) ?_
  refine lv_icmp_le (tgt := 19) hx hb d_Gp_feed_8 (by decide) (fun c_8 => ?_) (fun q9 => absurd (by rw [hn]; exact nI_le hn8 (by decide)) q9)
  refine lv_aload_n hx hb d_Gp_feed_19 rfl (lv_at hl 0 rfl) ?_
  refine gw_get M hK hI hC.O i_Gp rfl 2 (by decide) f_Gp_24 rfl (Pv := fun v => v = .ref (A 2 0)) (fun x hx => ⟨_, _, hx, rfl, rfl⟩) d_Gp_feed_20 (fun v hv => ?_)
  subst hv
  refine gw_get M hK hI hC.fed i_Ro rfl 1 (by decide) f_Gp_87 rfl (Pv := fun v => v = .int (nI fd)) (fun x hx => ⟨_, _, hx, rfl, rfl⟩) d_Gp_feed_23 (fun v hv => ?_)
  subst hv
  refine lv_iload_n hx hb d_Gp_feed_26 rfl (lv_at hl 1 rfl) ?_
  refine lv_iadd hx hb d_Gp_feed_27 ?_
  refine lv_sipush (v := 200) hx hb d_Gp_feed_28 (by decide) ?_
  refine lv_icmp_le (tgt := 36) hx hb d_Gp_feed_31 (by decide) (fun c_31 => ?_) (fun c_31 => ?_)
  · have h2 := feed_2 hf hn8 hn c_31
    refine lv_iconst (v := 0) hx hb d_Gp_feed_36 (by decide) ?_
    refine lv_istore (lv' := [(4, .int 0), (0, .ref (A 0 0)), (1, .int n1), (2, .long n2)]) hx hb d_Gp_feed_37 hl (by decide) rfl (fun ls hl => ?_)
    have L_39 : ∀ (n9 : Nat) (k : Nat) (y4 : Int32) (Gk : gw_G) (H : Heap) (locs : List Loc) (ls : Array Slot), k ≤ n → y4 = nI k → Gk = gw_up G (A 2 0) (kFe (A 8 0) (fd + k)) → n - k < n9 → gw_I D Hs Gk s.heap H locs → lv_has ls 5 [(4, .int y4), (0, .ref (A 0 0)), (1, .int n1), (2, .long n2)] → W p l e rm_Gp_feed s m args below meth c H locs 0 0 (MQ below (gw_Qi D Hs (fun r G1 => (200 < fd + n → r = -1 ∧ G1 = G) ∧ (fd + n ≤ 200 → r = nI (fd + n) ∧ G1 = gw_up G (A 2 0) (kFe (A 8 0) (fd + n))))) args s 0 0 (gw_A Hs)) (F0 m 39 ls []) := by
      intro n9
      induction n9 with
      | zero =>
        intro k y4 Gk H locs ls hkn hk hGe hm hI hl
        exact absurd hm (Nat.not_lt_zero _)
      | succ n9 ih_39 =>
        intro k y4 Gk H locs ls hkn hk hGe hm_39 hI hl
        have hFk : Gk (A 2 0) = some (kFe (A 8 0) (fd + k)) := by rw [hGe]; exact gw_up_s
        have hOk : Gk (A 0 0) = some (kGp A cnt) := by rw [hGe, gw_up_n (gw_nec hI0 hC.O hC.fed gt_Gp gt_Fe (by decide))]; exact hC.O
        have hBk : Gk (A 8 0) = some (kA D 1 200 tT) := by rw [hGe, gw_up_n (gw_nec hI0 hC.fq hC.fed gt_A gt_Fe (by decide))]; exact hC.fq
        refine lv_iload hx hb d_Gp_feed_39 (lv_at hl 0 rfl) ?_
        refine lv_iload_n hx hb d_Gp_feed_41 rfl (lv_at hl 2 rfl) ?_
        refine lv_icmp_ge (tgt := 66) hx hb d_Gp_feed_42 (by decide) (fun c_42 => ?_) (fun c_42 => ?_)
        · have hkn2 : k = n := Nat.le_antisymm hkn (nb_ge hk (by rw [← hn]; exact c_42) (by omega) (by omega))
          subst hkn2
          refine lv_aload_n hx hb d_Gp_feed_66 rfl (lv_at hl 1 rfl) ?_
          refine gw_get M hK hI hOk i_Gp rfl 2 (by decide) f_Gp_24 rfl (Pv := fun v => v = .ref (A 2 0)) (fun x hx => ⟨_, _, hx, rfl, rfl⟩) d_Gp_feed_67 (fun v hv => ?_)
          subst hv
          refine gw_get M hK hI hFk i_Ro rfl 1 (by decide) f_Gp_87 rfl (Pv := fun v => v = .int (nI (fd + k))) (fun x hx => ⟨_, _, hx, rfl, rfl⟩) d_Gp_feed_70 (fun v hv => ?_)
          subst hv
          exact gw_iret M hr hlo hI d_Gp_feed_73 (⟨fun h9 => absurd h9 (Nat.not_lt.mpr h2), fun _ => ⟨rfl, hGe⟩⟩)
        · have hlt : k < n := nb_lt hk (by rw [← hn]; exact c_42) (by omega) (by omega)
          refine lv_aload_n hx hb d_Gp_feed_45 rfl (lv_at hl 1 rfl) ?_
          refine gw_get M hK hI hOk i_Gp rfl 2 (by decide) f_Gp_24 rfl (Pv := fun v => v = .ref (A 2 0)) (fun x hx => ⟨_, _, hx, rfl, rfl⟩) d_Gp_feed_46 (fun v hv => ?_)
          subst hv
          refine lv_lload_n hx hb d_Gp_feed_49 rfl (lv_at hl 3 rfl) ?_
          refine lv_bipush (v := 8) hx hb d_Gp_feed_50 (by decide) ?_
          refine lv_iload hx hb d_Gp_feed_52 (lv_at hl 0 rfl) ?_
          refine lv_imul hx hb d_Gp_feed_54 ?_
          refine lv_lushr hx hb d_Gp_feed_55 rfl ?_
          refine lv_l2i hx hb d_Gp_feed_56 rfl ?_
          refine gw_Vv (As := [.int (((((n2).toUInt64 >>> ((((8 : Int32) * y4)).toInt64.toUInt64 &&& Int64.toUInt64 63)).toInt64)).toInt32)]) (rest := []) M hK hI (c_Ro_appende l (A 2 0) (A 8 0) (fd + k) 200 (((((n2).toUInt64 >>> ((((8 : Int32) * y4)).toInt64.toUInt64 &&& Int64.toUInt64 63)).toInt64)).toInt32) 0 (by omega) (by decide) hFk hBk) k_Ro_append m_Gp_90 hFk (ci := 3) rfl (fun x hx => ⟨_, hx⟩) rfl hl.1 rfl (Nat.le_of_ble_eq_true rfl) ⟨rfl, rfl, ⟨Nat.le_of_ble_eq_true rfl, Nat.le_of_ble_eq_true rfl⟩, ⟨Nat.le_of_ble_eq_true rfl, Nat.le_of_ble_eq_true rfl⟩⟩ d_Gp_feed_57 (fun G1 H locs hw hI => ?_)
          have hGn : G1 = gw_up G (A 2 0) (kFe (A 8 0) (fd + (k + 1))) := by rw [hw, hGe, gw_up_up]; rfl
          obtain ⟨x2, e_x2⟩ : ∃ ww9 : Int32, ww9 = y4 + 1 := ⟨_, rfl⟩
          refine lv_iinc (v := x2) (lv' := [(4, .int x2), (0, .ref (A 0 0)), (1, .int n1), (2, .long n2)]) hx hb d_Gp_feed_60 hl (k := 0) rfl (by rw [e_x2]; rfl) (by decide) rfl (fun ls hl => ?_)
          refine lv_goto (tgt := 39) hx hb d_Gp_feed_63 (by decide) ?_
          exact ih_39 (k + 1) x2 G1 _ _ _ hlt (nb_s e_x2 hk) hGn (z_m hm_39 hlt) hI (lv_sub hl [0, 1, 2, 3] rfl)
    exact L_39 _ 0 0 G _ _ _ (Nat.zero_le _) rfl ((gw_up_id hC.fed).symm) (Nat.lt_succ_self _) hI (lv_sub hl [0, 1, 2, 3] rfl)
  · have h2 := feed_3 hf hn8 hn c_31
    refine lv_iconst (v := (-1)) hx hb d_Gp_feed_34 (by decide) ?_
    exact gw_iret M hr hlo hI d_Gp_feed_35 (⟨fun _ => ⟨rfl, rfl⟩, fun h9 => absurd h2 (Nat.not_lt.mpr h9)⟩)

abbrev rm_Gp_spoil : Room := { frames := 1, cells := 0, slots := 0, locals := 22 }
set_option maxHeartbeats 4000000 in
set_option maxRecDepth 100000 in
theorem c_Gp_spoil (l : Launch) {D : gw_D} {Hs : Heap} {G : gw_G} (sl : Nat) (hsl : sl ≤ 236) (th : Int32) (hth : th = 0 ∨ th = 1) {G0 : gw_G} (A : Nat → Nat → Nat) (pm : Nat → Nat) (cnt fd : Nat) (tt xt li : Nat → Int32) (la : Nat → Int64) (hC : cls D G0 A pm cnt fd tt xt li la) (hGe : G = gw_up G0 (A 3 0) (kx (.inr (3, [.ref (A 9 0), .int (nI sl), .int th])))) (hO : G (A 0 0) = some (kGp A cnt)) (n1 n2 : Int32) (hok : ¬ n1 < 0 ∧ n1 < nI sl) (hby : okB n2) : Met l y_Gp_spoil (Cond.code y_Gp_spoil b_Gp_spoil 4 (some .int) :: tb) rm_Gp_spoil (gw_Pc D Hs G [.ref (A 0 0), .int n1, .int n2]) (gw_Qi D Hs (fun _ G1 => G1 = G0)) 0 0 (gw_A Hs) := by
  refine gw_met (by decide) (Nat.le_of_ble_eq_true rfl) ?_
  intro p e s m args below meth c M hK hr hlo hin hI ls hl
  have hx := M.1
  have hb := M.2.1
  have hl : lv_has ls 4 [(0, .ref (A 0 0)), (1, .int n1), (2, .int n2)] := hl
  have hS : G (A 3 0) = some (kx (.inr (3, [.ref (A 9 0), .int (nI sl), .int th]))) := by rw [hGe]; exact gw_up_s
  refine lv_iload_n hx hb d_Gp_spoil_0 rfl (lv_at hl 1 rfl) ?_
  refine lv_if_lt (tgt := 15) hx hb d_Gp_spoil_1 (by decide) (fun q9 => absurd q9 hok.1) (fun c_1 => ?_)
  refine lv_iload_n hx hb d_Gp_spoil_4 rfl (lv_at hl 1 rfl) ?_
  refine lv_aload_n hx hb d_Gp_spoil_5 rfl (lv_at hl 0 rfl) ?_
  refine gw_get M hK hI hO i_Gp rfl 3 (by decide) f_Gp_28 rfl (Pv := fun v => v = .ref (A 3 0)) (fun x hx => ⟨_, _, hx, rfl, rfl⟩) d_Gp_spoil_6 (fun v hv => ?_)
  subst hv
  refine gw_get M hK hI hS i_Ro rfl 1 (by decide) f_Gp_87 rfl (Pv := fun v => v = .int (nI sl)) (fun x hx => ⟨_, _, hx, rfl, rfl⟩) d_Gp_spoil_9 (fun v hv => ?_)
  subst hv
  refine lv_icmp_lt (tgt := 23) hx hb d_Gp_spoil_12 (by decide) (fun c_12 => ?_) (fun q9 => absurd hok.2 q9)
  refine lv_iload_n hx hb d_Gp_spoil_23 rfl (lv_at hl 2 rfl) ?_
  refine gp_S (As := [.int n2]) (rest := []) M hK hI (c_Gp_isByte l n2) k_Gp_isByte m_Gp_96 rfl hl.1 rfl (Nat.le_of_ble_eq_true rfl) ⟨rfl, rfl, ⟨Nat.le_of_ble_eq_true rfl, Nat.le_of_ble_eq_true rfl⟩, ⟨Nat.le_of_ble_eq_true rfl, Nat.le_of_ble_eq_true rfl⟩⟩ d_Gp_spoil_24 (fun x1 h_x1 => ?_)
  have h_x1 := h_x1.1 hby
  subst h_x1
  refine lv_if_ne (tgt := 38) hx hb d_Gp_spoil_27 (by decide) (fun c_27 => ?_) (fun q9 => absurd q9 (by decide))
  have hI : gw_I D Hs G0 s.heap _ _ := ⟨gw_P.close (a := A 3 0) (by rw [hGe] at hI; exact hI.1) hC.sent (fun e h => by obtain rfl := h; exact ⟨_, _, ⟨sl, hsl, rfl⟩, hth, rfl⟩), hI.2⟩
  refine lv_aload_n hx hb d_Gp_spoil_38 rfl (lv_at hl 0 rfl) ?_
  refine gw_get M hK hI hC.O i_Gp rfl 3 (by decide) f_Gp_28 rfl (Pv := fun v => v = .ref (A 3 0)) (fun x hx => ⟨_, _, hx, rfl, rfl⟩) d_Gp_spoil_39 (fun v hv => ?_)
  subst hv
  refine lv_iload_n hx hb d_Gp_spoil_42 rfl (lv_at hl 1 rfl) ?_
  refine lv_i2l hx hb d_Gp_spoil_43 rfl ?_
  refine gw_Vi (As := [.long ((n1).toInt64)]) (rest := []) M hK hI (c_Ro_at l ((n1).toInt64) (A 3 0) (A 9 0) 236 (by decide) hC.sent isRw_Ro hC.sq) k_Ro_at m_Gp_132 hC.sent (ci := 3) rfl (fun x hx => by obtain ⟨u1, u2, h_u1, h_u2, q9⟩ := hx; exact ⟨_, q9⟩) rfl hl.1 rfl (Nat.le_of_ble_eq_true rfl) ⟨rfl, rfl, ⟨Nat.le_of_ble_eq_true rfl, Nat.le_of_ble_eq_true rfl⟩, ⟨Nat.le_of_ble_eq_true rfl, Nat.le_of_ble_eq_true rfl⟩⟩ d_Gp_spoil_44 (fun x2 G9 H locs hw hI => ?_)
  rw [hw] at hI
  refine lv_istore_n (lv' := [(3, .int x2), (0, .ref (A 0 0)), (1, .int n1), (2, .int n2)]) hx hb d_Gp_spoil_47 rfl hl (by decide) rfl (fun ls hl => ?_)
  refine lv_aload_n hx hb d_Gp_spoil_48 rfl (lv_at hl 1 rfl) ?_
  refine gw_get M hK hI hC.O i_Gp rfl 3 (by decide) f_Gp_28 rfl (Pv := fun v => v = .ref (A 3 0)) (fun x hx => ⟨_, _, hx, rfl, rfl⟩) d_Gp_spoil_49 (fun v hv => ?_)
  subst hv
  refine lv_iload_n hx hb d_Gp_spoil_52 rfl (lv_at hl 2 rfl) ?_
  refine lv_iload_n hx hb d_Gp_spoil_53 rfl (lv_at hl 3 rfl) ?_
  refine gw_Vv (As := [.int n1, .int n2]) (rest := []) M hK hI (c_Ro_put l n1 n2 (A 3 0) (A 9 0) 236 (by decide) hC.sent hC.sq) k_Ro_put m_Gp_136 hC.sent (ci := 3) rfl (fun x hx => by obtain ⟨u1, u2, h_u1, h_u2, q9⟩ := hx; exact ⟨_, q9⟩) rfl hl.1 rfl (Nat.le_of_ble_eq_true rfl) ⟨rfl, rfl, ⟨Nat.le_of_ble_eq_true rfl, Nat.le_of_ble_eq_true rfl⟩, ⟨Nat.le_of_ble_eq_true rfl, Nat.le_of_ble_eq_true rfl⟩⟩ d_Gp_spoil_54 (fun G9 H locs hw hI => ?_)
  rw [hw] at hI
  refine lv_iload_n hx hb d_Gp_spoil_57 rfl (lv_at hl 0 rfl) ?_
  exact gw_iret M hr hlo hI d_Gp_spoil_58 rfl

abbrev rm_Gp_cut : Room := { frames := 1, cells := 0, slots := 0, locals := 21 }
set_option maxHeartbeats 4000000 in
set_option maxRecDepth 100000 in
theorem c_Gp_cut (l : Launch) {D : gw_D} {Hs : Heap} {G : gw_G} (sl : Nat) (hsl : sl ≤ 236) (th : Int32) (hth : th = 0 ∨ th = 1) {G0 : gw_G} (A : Nat → Nat → Nat) (pm : Nat → Nat) (cnt fd : Nat) (tt xt li : Nat → Int32) (la : Nat → Int64) (hC : cls D G0 A pm cnt fd tt xt li la) (hGe : G = gw_up G0 (A 3 0) (kx (.inr (3, [.ref (A 9 0), .int (nI sl), .int th])))) (hO : G (A 0 0) = some (kGp A cnt)) (n1 : Int32) (hok : ¬ n1 < 0 ∧ n1 ≤ nI sl) : Met l y_Gp_cut (Cond.code y_Gp_cut b_Gp_cut 2 none :: tb) rm_Gp_cut (gw_Pc D Hs G [.ref (A 0 0), .int n1]) (gw_Qv D Hs (fun G1 => G1 = G0)) 0 0 (gw_A Hs) := by
  refine gw_met (by decide) (Nat.le_of_ble_eq_true rfl) ?_
  intro p e s m args below meth c M hK hr hlo hin hI ls hl
  have hx := M.1
  have hb := M.2.1
  have hl : lv_has ls 2 [(0, .ref (A 0 0)), (1, .int n1)] := hl
  have hS : G (A 3 0) = some (kx (.inr (3, [.ref (A 9 0), .int (nI sl), .int th]))) := by rw [hGe]; exact gw_up_s
  refine lv_iload_n hx hb d_Gp_cut_0 rfl (lv_at hl 1 rfl) ?_
  refine lv_if_lt (tgt := 15) hx hb d_Gp_cut_1 (by decide) (fun q9 => absurd q9 hok.1) (fun c_1 => ?_)
  refine lv_iload_n hx hb d_Gp_cut_4 rfl (lv_at hl 1 rfl) ?_
  refine lv_aload_n hx hb d_Gp_cut_5 rfl (lv_at hl 0 rfl) ?_
  refine gw_get M hK hI hO i_Gp rfl 3 (by decide) f_Gp_28 rfl (Pv := fun v => v = .ref (A 3 0)) (fun x hx => ⟨_, _, hx, rfl, rfl⟩) d_Gp_cut_6 (fun v hv => ?_)
  subst hv
  refine gw_get M hK hI hS i_Ro rfl 1 (by decide) f_Gp_87 rfl (Pv := fun v => v = .int (nI sl)) (fun x hx => ⟨_, _, hx, rfl, rfl⟩) d_Gp_cut_9 (fun v hv => ?_)
  subst hv
  refine lv_icmp_le (tgt := 23) hx hb d_Gp_cut_12 (by decide) (fun c_12 => ?_) (fun q9 => absurd hok.2 q9)
  have hI : gw_I D Hs G0 s.heap _ _ := ⟨gw_P.close (a := A 3 0) (by rw [hGe] at hI; exact hI.1) hC.sent (fun e h => by obtain rfl := h; exact ⟨_, _, ⟨sl, hsl, rfl⟩, hth, rfl⟩), hI.2⟩
  refine lv_aload_n hx hb d_Gp_cut_23 rfl (lv_at hl 0 rfl) ?_
  refine gw_get M hK hI hC.O i_Gp rfl 3 (by decide) f_Gp_28 rfl (Pv := fun v => v = .ref (A 3 0)) (fun x hx => ⟨_, _, hx, rfl, rfl⟩) d_Gp_cut_24 (fun v hv => ?_)
  subst hv
  refine lv_iload_n hx hb d_Gp_cut_27 rfl (lv_at hl 1 rfl) ?_
  refine gw_Vv (As := [.int n1]) (rest := []) M hK hI (c_Ro_shorten l n1 (A 3 0) (A 9 0) 236 (by decide) hC.sent hC.sq) k_Ro_shorten m_Gp_93 hC.sent (ci := 3) rfl (fun x hx => by obtain ⟨u1, u2, h_u1, h_u2, q9⟩ := hx; exact ⟨_, q9⟩) rfl hl.1 rfl (Nat.le_of_ble_eq_true rfl) ⟨rfl, rfl, ⟨Nat.le_of_ble_eq_true rfl, Nat.le_of_ble_eq_true rfl⟩, ⟨Nat.le_of_ble_eq_true rfl, Nat.le_of_ble_eq_true rfl⟩⟩ d_Gp_cut_28 (fun G9 H locs hw hI => ?_)
  rw [hw] at hI
  exact gw_vret M hr hlo hI d_Gp_cut_31 rfl

abbrev rm_Gp_spoilx : Room := { frames := 6, cells := 1, slots := 6, locals := 100 }
set_option maxHeartbeats 4000000 in
set_option maxRecDepth 100000 in
theorem c_Gp_spoilx (l : Launch) (htr : l.stackTraces = false) {D : gw_D} {Hs : Heap} {G : gw_G} (sl : Nat) (hsl : sl ≤ 236) (th : Int32) (hth : th = 0 ∨ th = 1) {G0 : gw_G} (A : Nat → Nat → Nat) (pm : Nat → Nat) (cnt fd : Nat) (tt xt li : Nat → Int32) (la : Nat → Int64) (hC : cls D G0 A pm cnt fd tt xt li la) (hGe : G = gw_up G0 (A 3 0) (kx (.inr (3, [.ref (A 9 0), .int (nI sl), .int th])))) (hO : G (A 0 0) = some (kGp A cnt)) (n1 n2 : Int32) (hbad : n1 < 0 ∨ ¬ n1 < nI sl) : xt_Met l y_Gp_spoil b_Gp_spoil 4 (some .int) rm_Gp_spoilx D Hs G [.ref (A 0 0), .int n1, .int n2] "java/lang/IndexOutOfBoundsException" 1 6 := by
  refine xt_met (by decide) (Nat.le_of_ble_eq_true rfl) ?_
  intro p e s m args below meth c M hK hlo hex hI ls hl
  have hx := M.1
  have hb := M.2.1
  have hl : lv_has ls 4 [(0, .ref (A 0 0)), (1, .int n1), (2, .int n2)] := hl
  have hS : G (A 3 0) = some (kx (.inr (3, [.ref (A 9 0), .int (nI sl), .int th]))) := by rw [hGe]; exact gw_up_s
  refine lv_iload_n hx hb d_Gp_spoil_0 rfl (lv_at hl 1 rfl) ?_
  refine lv_if_lt (tgt := 15) hx hb d_Gp_spoil_1 (by decide) (fun c_1 => ?_) (fun c_1 => ?_)
  · exact xt_throw M hK hI htr hlo hex (names := ["java/lang/RuntimeException", "java/lang/Exception"]) (ic := 131) (by decide +kernel) (by decide +kernel) q_Gp_129 z_IOE j_IOE at_IOE hl.1 d_Gp_spoil_15 d_Gp_spoil_18 d_Gp_spoil_19 d_Gp_spoil_22 (by decide) (by decide) (by decide) (by decide)
  · refine lv_iload_n hx hb d_Gp_spoil_4 rfl (lv_at hl 1 rfl) ?_
    refine lv_aload_n hx hb d_Gp_spoil_5 rfl (lv_at hl 0 rfl) ?_
    refine gw_get M hK hI hO i_Gp rfl 3 (by decide) f_Gp_28 rfl (Pv := fun v => v = .ref (A 3 0)) (fun x hx => ⟨_, _, hx, rfl, rfl⟩) d_Gp_spoil_6 (fun v hv => ?_)
    subst hv
    refine gw_get M hK hI hS i_Ro rfl 1 (by decide) f_Gp_87 rfl (Pv := fun v => v = .int (nI sl)) (fun x hx => ⟨_, _, hx, rfl, rfl⟩) d_Gp_spoil_9 (fun v hv => ?_)
    subst hv
    refine lv_icmp_lt (tgt := 23) hx hb d_Gp_spoil_12 (by decide) (fun q9 => absurd q9 (hbad.resolve_left c_1)) (fun c_12 => ?_)
    exact xt_throw M hK hI htr hlo hex (names := ["java/lang/RuntimeException", "java/lang/Exception"]) (ic := 131) (by decide +kernel) (by decide +kernel) q_Gp_129 z_IOE j_IOE at_IOE hl.1 d_Gp_spoil_15 d_Gp_spoil_18 d_Gp_spoil_19 d_Gp_spoil_22 (by decide) (by decide) (by decide) (by decide)

abbrev rm_Gp_spoily : Room := { frames := 6, cells := 1, slots := 6, locals := 100 }
set_option maxHeartbeats 4000000 in
set_option maxRecDepth 100000 in
theorem c_Gp_spoily (l : Launch) (htr : l.stackTraces = false) {D : gw_D} {Hs : Heap} {G : gw_G} (sl : Nat) (hsl : sl ≤ 236) (th : Int32) (hth : th = 0 ∨ th = 1) {G0 : gw_G} (A : Nat → Nat → Nat) (pm : Nat → Nat) (cnt fd : Nat) (tt xt li : Nat → Int32) (la : Nat → Int64) (hC : cls D G0 A pm cnt fd tt xt li la) (hGe : G = gw_up G0 (A 3 0) (kx (.inr (3, [.ref (A 9 0), .int (nI sl), .int th])))) (hO : G (A 0 0) = some (kGp A cnt)) (n1 n2 : Int32) (hok : ¬ n1 < 0 ∧ n1 < nI sl) (hby : ¬ okB n2) : xt_Met l y_Gp_spoil b_Gp_spoil 4 (some .int) rm_Gp_spoily D Hs G [.ref (A 0 0), .int n1, .int n2] "java/lang/IllegalArgumentException" 1 6 := by
  refine xt_met (by decide) (Nat.le_of_ble_eq_true rfl) ?_
  intro p e s m args below meth c M hK hlo hex hI ls hl
  have hx := M.1
  have hb := M.2.1
  have hl : lv_has ls 4 [(0, .ref (A 0 0)), (1, .int n1), (2, .int n2)] := hl
  have hS : G (A 3 0) = some (kx (.inr (3, [.ref (A 9 0), .int (nI sl), .int th]))) := by rw [hGe]; exact gw_up_s
  refine lv_iload_n hx hb d_Gp_spoil_0 rfl (lv_at hl 1 rfl) ?_
  refine lv_if_lt (tgt := 15) hx hb d_Gp_spoil_1 (by decide) (fun q9 => absurd q9 hok.1) (fun c_1 => ?_)
  refine lv_iload_n hx hb d_Gp_spoil_4 rfl (lv_at hl 1 rfl) ?_
  refine lv_aload_n hx hb d_Gp_spoil_5 rfl (lv_at hl 0 rfl) ?_
  refine gw_get M hK hI hO i_Gp rfl 3 (by decide) f_Gp_28 rfl (Pv := fun v => v = .ref (A 3 0)) (fun x hx => ⟨_, _, hx, rfl, rfl⟩) d_Gp_spoil_6 (fun v hv => ?_)
  subst hv
  refine gw_get M hK hI hS i_Ro rfl 1 (by decide) f_Gp_87 rfl (Pv := fun v => v = .int (nI sl)) (fun x hx => ⟨_, _, hx, rfl, rfl⟩) d_Gp_spoil_9 (fun v hv => ?_)
  subst hv
  refine lv_icmp_lt (tgt := 23) hx hb d_Gp_spoil_12 (by decide) (fun c_12 => ?_) (fun q9 => absurd hok.2 q9)
  refine lv_iload_n hx hb d_Gp_spoil_23 rfl (lv_at hl 2 rfl) ?_
  refine gp_S (As := [.int n2]) (rest := []) M hK hI (c_Gp_isByte l n2) k_Gp_isByte m_Gp_96 rfl hl.1 rfl (Nat.le_of_ble_eq_true rfl) ⟨rfl, rfl, ⟨Nat.le_of_ble_eq_true rfl, Nat.le_of_ble_eq_true rfl⟩, ⟨Nat.le_of_ble_eq_true rfl, Nat.le_of_ble_eq_true rfl⟩⟩ d_Gp_spoil_24 (fun x1 h_x1 => ?_)
  have h_x1 := h_x1.2 hby
  subst h_x1
  refine lv_if_ne (tgt := 38) hx hb d_Gp_spoil_27 (by decide) (fun q9 => absurd (by decide) q9) (fun c_27 => ?_)
  exact xt_throw M hK hI htr hlo hex (names := ["java/lang/RuntimeException", "java/lang/Exception"]) (ic := 55) (by decide +kernel) (by decide +kernel) q_Gp_53 z_IAE j_IAE at_IAE hl.1 d_Gp_spoil_30 d_Gp_spoil_33 d_Gp_spoil_34 d_Gp_spoil_37 (by decide) (by decide) (by decide) (by decide)

abbrev rm_Gp_cutx : Room := { frames := 6, cells := 1, slots := 6, locals := 100 }
set_option maxHeartbeats 4000000 in
set_option maxRecDepth 100000 in
theorem c_Gp_cutx (l : Launch) (htr : l.stackTraces = false) {D : gw_D} {Hs : Heap} {G : gw_G} (sl : Nat) (hsl : sl ≤ 236) (th : Int32) (hth : th = 0 ∨ th = 1) {G0 : gw_G} (A : Nat → Nat → Nat) (pm : Nat → Nat) (cnt fd : Nat) (tt xt li : Nat → Int32) (la : Nat → Int64) (hC : cls D G0 A pm cnt fd tt xt li la) (hGe : G = gw_up G0 (A 3 0) (kx (.inr (3, [.ref (A 9 0), .int (nI sl), .int th])))) (hO : G (A 0 0) = some (kGp A cnt)) (n1 : Int32) (hbad : n1 < 0 ∨ ¬ n1 ≤ nI sl) : xt_Met l y_Gp_cut b_Gp_cut 2 none rm_Gp_cutx D Hs G [.ref (A 0 0), .int n1] "java/lang/IllegalArgumentException" 1 6 := by
  refine xt_met (by decide) (Nat.le_of_ble_eq_true rfl) ?_
  intro p e s m args below meth c M hK hlo hex hI ls hl
  have hx := M.1
  have hb := M.2.1
  have hl : lv_has ls 2 [(0, .ref (A 0 0)), (1, .int n1)] := hl
  have hS : G (A 3 0) = some (kx (.inr (3, [.ref (A 9 0), .int (nI sl), .int th]))) := by rw [hGe]; exact gw_up_s
  refine lv_iload_n hx hb d_Gp_cut_0 rfl (lv_at hl 1 rfl) ?_
  refine lv_if_lt (tgt := 15) hx hb d_Gp_cut_1 (by decide) (fun c_1 => ?_) (fun c_1 => ?_)
  · exact xt_throw M hK hI htr hlo hex (names := ["java/lang/RuntimeException", "java/lang/Exception"]) (ic := 55) (by decide +kernel) (by decide +kernel) q_Gp_53 z_IAE j_IAE at_IAE hl.1 d_Gp_cut_15 d_Gp_cut_18 d_Gp_cut_19 d_Gp_cut_22 (by decide) (by decide) (by decide) (by decide)
  · refine lv_iload_n hx hb d_Gp_cut_4 rfl (lv_at hl 1 rfl) ?_
    refine lv_aload_n hx hb d_Gp_cut_5 rfl (lv_at hl 0 rfl) ?_
    refine gw_get M hK hI hO i_Gp rfl 3 (by decide) f_Gp_28 rfl (Pv := fun v => v = .ref (A 3 0)) (fun x hx => ⟨_, _, hx, rfl, rfl⟩) d_Gp_cut_6 (fun v hv => ?_)
    subst hv
    refine gw_get M hK hI hS i_Ro rfl 1 (by decide) f_Gp_87 rfl (Pv := fun v => v = .int (nI sl)) (fun x hx => ⟨_, _, hx, rfl, rfl⟩) d_Gp_cut_9 (fun v hv => ?_)
    subst hv
    refine lv_icmp_le (tgt := 23) hx hb d_Gp_cut_12 (by decide) (fun q9 => absurd q9 (hbad.resolve_left c_1)) (fun c_12 => ?_)
    exact xt_throw M hK hI htr hlo hex (names := ["java/lang/RuntimeException", "java/lang/Exception"]) (ic := 55) (by decide +kernel) (by decide +kernel) q_Gp_53 z_IAE j_IAE at_IAE hl.1 d_Gp_cut_15 d_Gp_cut_18 d_Gp_cut_19 d_Gp_cut_22 (by decide) (by decide) (by decide) (by decide)
