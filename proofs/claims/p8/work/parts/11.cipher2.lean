theorem nb_lt {x : Int32} {k n : Nat} (hx : x = nI k) (h : ¬ nI n ≤ x) (hn : n < 2 ^ 31 := by decide) (hk : k < 2 ^ 31 := by omega) : k < n := by
  rcases Nat.lt_or_ge k n with q | q
  · exact q
  · exact absurd (by rw [hx]; exact nI_le q hk) h
theorem nb_ge {x : Int32} {k n : Nat} (hx : x = nI k) (h : nI n ≤ x) (hn : n < 2 ^ 31 := by decide) (hk : k < 2 ^ 31 := by omega) : n ≤ k := by
  subst hx
  exact (nI_leI hn hk).mp h
theorem nb_lt' {x : Int32} {k n : Nat} (hx : x = nI k) (h : x < nI n) (hn : n < 2 ^ 31 := by decide) (hk : k < 2 ^ 31 := by omega) : k < n := by
  subst hx
  exact (nI_ltI hk hn).mp h
theorem nb_ge' {x : Int32} {k n : Nat} (hx : x = nI k) (h : ¬ x < nI n) (hn : n < 2 ^ 31 := by decide) (hk : k < 2 ^ 31 := by omega) : n ≤ k := by
  rcases Nat.lt_or_ge k n with q | q
  · exact absurd (by rw [hx]; exact nI_lt q hn) h
  · exact q
theorem nb_gt {x : Int32} {k n : Nat} (hx : x = nI k) (h : nI n < x) (hn : n < 2 ^ 31 := by decide) (hk : k < 2 ^ 31 := by omega) : n < k := by
  subst hx
  exact (nI_ltI hn hk).mp h
theorem nb_le {x : Int32} {k n : Nat} (hx : x = nI k) (h : ¬ nI n < x) (hn : n < 2 ^ 31 := by decide) (hk : k < 2 ^ 31 := by omega) : k ≤ n := by
  rcases Nat.lt_or_ge n k with q | q
  · exact absurd (by rw [hx]; exact nI_lt q hk) h
  · exact q
theorem nb_le' {x : Int32} {k n : Nat} (hx : x = nI k) (h : x ≤ nI n) (hn : n < 2 ^ 31 := by decide) (hk : k < 2 ^ 31 := by omega) : k ≤ n := by
  subst hx
  exact (nI_leI hk hn).mp h
theorem nb_gt' {x : Int32} {k n : Nat} (hx : x = nI k) (h : ¬ x ≤ nI n) (hn : n < 2 ^ 31 := by decide) (hk : k < 2 ^ 31 := by omega) : n < k := by
  rcases Nat.lt_or_ge n k with q | q
  · exact q
  · exact absurd (by rw [hx]; exact nI_le q hn) h
theorem nb_s {x y : Int32} {k : Nat} (hy : y = x + 1) (hx : x = nI k) : y = nI (k + 1) := by rw [hy, hx]; exact nI_1 k
theorem nb_in {x : Int32} {k n : Nat} (hx : x = nI k) (h : k < n := by omega) (hn : n < 2 ^ 31 := by decide) : vp_in x n := by rw [hx]; exact vp_in_nI h hn
theorem nb_sub {x : Int32} {k : Nat} (hx : x = nI k) (c : Nat) (h : c ≤ k := by omega) : x - nI c = nI (k - c) := by rw [hx]; exact pk_sub h
theorem nb_add {x : Int32} {k : Nat} (hx : x = nI k) (c : Nat) : x + nI c = nI (k + c) := by rw [hx]; exact nI_add k c
theorem nb_mul {x : Int32} {k : Nat} (hx : x = nI k) (c : Nat) : nI c * x = nI (c * k) := by rw [hx]; exact pk_mul c k
theorem nb_aa {x y : Int32} {k j : Nat} (hx : x = nI k) (hy : y = nI j) : x + y = nI (k + j) := by rw [hx, hy]; exact nI_add k j
theorem nb_rem {x : Int32} {k : Nat} (hx : x = nI k) (d : Nat) (hd : 0 < d := by decide) (hd2 : d < 2 ^ 31 := by decide) (hk : k < 2 ^ 31 := by omega) : x - x / nI d * nI d = nI (k % d) := by rw [hx]; exact pk_rem hk hd hd2
theorem nb_div {x : Int32} {k : Nat} (hx : x = nI k) (d : Nat) (hd : 0 < d := by decide) (hd2 : d < 2 ^ 31 := by decide) (hk : k < 2 ^ 31 := by omega) : x / nI d = nI (k / d) := by rw [hx]; exact pk_div hk hd hd2
theorem in_lt {x : Int32} {n : Nat} (h0 : ¬ x < 0) (h : x < nI n) (hn : n < 2 ^ 31 := by decide) : vp_in x n := by
  obtain ⟨j, hj, rfl⟩ := nI_of h0
  exact vp_in_nI ((nI_ltI hj hn).mp h) hn
/-- any int at all, any long at all -/
def tT : Int32 → Prop := fun _ => True
def tU : Int64 → Prop := fun _ => True

def kCi (w0 : Nat) : va_E → Prop := fun e => ∃ (u1 : Int64) (u2 : Int64), e = .inr (2, [.ref w0, .long u1, .long u2])

abbrev rm_Ci_takeKey : Room := { frames := 1, cells := 0, slots := 0, locals := 23 }
set_option maxHeartbeats 4000000 in
set_option maxRecDepth 100000 in
theorem c_Ci_takeKey (l : Launch) {D : gw_D} {Hs : Heap} {G : gw_G} (a wo : Nat) (kh kl : Int64) (hC : G a = some (kCi wo)) (hO : G wo = some (kA D 0 44 tT)) : Met l y_Ci_takeKey (Cond.code y_Ci_takeKey b_Ci_takeKey 9 none :: tb) rm_Ci_takeKey (gw_Pc D Hs G [.ref a, .long kh, .long kl]) (gw_Qv D Hs (fun G1 => G1 = G)) 0 0 (gw_A Hs) := by
  refine gw_met (by decide) (Nat.le_of_ble_eq_true rfl) ?_
  intro p e s m args below meth c M hK hr hlo hin hI ls hl
  have hx := M.1
  have hb := M.2.1
  have hl : lv_has ls 9 [(0, .ref a), (1, .long kh), (3, .long kl)] := hl
  refine lv_aload_n hx hb d_Ci_takeKey_0 rfl (lv_at hl 0 rfl) ?_
  refine gw_get M hK hI hC i_Ci rfl 0 (by decide) f_Ci_9 rfl (Pv := fun v => v = .ref wo) (fun x hx => by obtain ⟨u1, u2, q9⟩ := hx; exact ⟨_, _, q9, rfl, rfl⟩) d_Ci_takeKey_1 (fun v hv => ?_)
  subst hv
  refine lv_iconst (v := 0) hx hb d_Ci_takeKey_4 (by decide) ?_
  refine lv_lload_n hx hb d_Ci_takeKey_5 rfl (lv_at hl 1 rfl) ?_
  refine lv_bipush (v := 32) hx hb d_Ci_takeKey_6 (by decide) ?_
  refine lv_lushr hx hb d_Ci_takeKey_8 rfl ?_
  refine lv_l2i hx hb d_Ci_takeKey_9 rfl ?_
  refine lv_topi (fun x1 e_x1 => ?_)
  refine gw_iast M hK hI hO (vp_in_nI (n := 0) (by decide) (by decide)) trivial d_Ci_takeKey_10 (fun H locs hI => ?_)
  refine lv_aload_n hx hb d_Ci_takeKey_11 rfl (lv_at hl 0 rfl) ?_
  refine gw_get M hK hI hC i_Ci rfl 0 (by decide) f_Ci_9 rfl (Pv := fun v => v = .ref wo) (fun x hx => by obtain ⟨u1, u2, q9⟩ := hx; exact ⟨_, _, q9, rfl, rfl⟩) d_Ci_takeKey_12 (fun v hv => ?_)
  subst hv
  refine lv_iconst (v := 1) hx hb d_Ci_takeKey_15 (by decide) ?_
  refine lv_lload_n hx hb d_Ci_takeKey_16 rfl (lv_at hl 1 rfl) ?_
  refine lv_l2i hx hb d_Ci_takeKey_17 rfl ?_
  refine lv_topi (fun x2 e_x2 => ?_)
  refine gw_iast M hK hI hO (vp_in_nI (n := 1) (by decide) (by decide)) trivial d_Ci_takeKey_18 (fun H locs hI => ?_)
  refine lv_aload_n hx hb d_Ci_takeKey_19 rfl (lv_at hl 0 rfl) ?_
  refine gw_get M hK hI hC i_Ci rfl 0 (by decide) f_Ci_9 rfl (Pv := fun v => v = .ref wo) (fun x hx => by obtain ⟨u1, u2, q9⟩ := hx; exact ⟨_, _, q9, rfl, rfl⟩) d_Ci_takeKey_20 (fun v hv => ?_)
  subst hv
  refine lv_iconst (v := 2) hx hb d_Ci_takeKey_23 (by decide) ?_
  refine lv_lload_n hx hb d_Ci_takeKey_24 rfl (lv_at hl 2 rfl) ?_
  refine lv_bipush (v := 32) hx hb d_Ci_takeKey_25 (by decide) ?_
  refine lv_lushr hx hb d_Ci_takeKey_27 rfl ?_
  refine lv_l2i hx hb d_Ci_takeKey_28 rfl ?_
  refine lv_topi (fun x3 e_x3 => ?_)
  refine gw_iast M hK hI hO (vp_in_nI (n := 2) (by decide) (by decide)) trivial d_Ci_takeKey_29 (fun H locs hI => ?_)
  refine lv_aload_n hx hb d_Ci_takeKey_30 rfl (lv_at hl 0 rfl) ?_
  refine gw_get M hK hI hC i_Ci rfl 0 (by decide) f_Ci_9 rfl (Pv := fun v => v = .ref wo) (fun x hx => by obtain ⟨u1, u2, q9⟩ := hx; exact ⟨_, _, q9, rfl, rfl⟩) d_Ci_takeKey_31 (fun v hv => ?_)
  subst hv
  refine lv_iconst (v := 3) hx hb d_Ci_takeKey_34 (by decide) ?_
  refine lv_lload_n hx hb d_Ci_takeKey_35 rfl (lv_at hl 2 rfl) ?_
  refine lv_l2i hx hb d_Ci_takeKey_36 rfl ?_
  refine lv_topi (fun x4 e_x4 => ?_)
  refine gw_iast M hK hI hO (vp_in_nI (n := 3) (by decide) (by decide)) trivial d_Ci_takeKey_37 (fun H locs hI => ?_)
  refine lv_iconst (v := 1) hx hb d_Ci_takeKey_38 (by decide) ?_
  refine lv_istore (lv' := [(5, .int 1), (0, .ref a), (1, .long kh), (3, .long kl)]) hx hb d_Ci_takeKey_39 hl (by decide) rfl (fun ls hl => ?_)
  refine lv_iconst (v := 4) hx hb d_Ci_takeKey_41 (by decide) ?_
  refine lv_istore (lv' := [(6, .int 4), (5, .int 1), (0, .ref a), (1, .long kh), (3, .long kl)]) hx hb d_Ci_takeKey_42 hl (by decide) rfl (fun ls hl => ?_)
  have L_44 : ∀ (n9 : Nat) (k : Nat) (y5 : Int32) (y6 : Int32) (H : Heap) (locs : List Loc) (ls : Array Slot), 4 ≤ k → k ≤ 44 → y6 = nI k → 44 - k < n9 → gw_I D Hs G s.heap H locs → lv_has ls 9 [(6, .int y6), (5, .int y5), (0, .ref a), (1, .long kh), (3, .long kl)] → W p l e rm_Ci_takeKey s m args below meth c H locs 0 0 (MQ below (gw_Qv D Hs (fun G1 => G1 = G)) args s 0 0 (gw_A Hs)) (F0 m 44 ls []) := by
    intro n9
    induction n9 with
    | zero =>
      intro k y5 y6 H locs ls h4 h44 hk hm hI hl
      exact absurd hm (Nat.not_lt_zero _)
    | succ n9 ih_44 =>
      intro k y5 y6 H locs ls h4 h44 hk hm hI hl
      refine lv_iload hx hb d_Ci_takeKey_44 (lv_at hl 0 rfl) ?_
      refine lv_bipush (v := 44) hx hb d_Ci_takeKey_46 (by decide) ?_
      refine lv_icmp_ge (tgt := 129) hx hb d_Ci_takeKey_48 (by decide) (fun c_48 => ?_) (fun c_48 => ?_)
      · exact gw_vret M hr hlo hI d_Ci_takeKey_129 rfl
      · have hlt : k < 44 := nb_lt (n := 44) hk c_48
        refine lv_aload_n hx hb d_Ci_takeKey_51 rfl (lv_at hl 2 rfl) ?_
        refine gw_get M hK hI hC i_Ci rfl 0 (by decide) f_Ci_9 rfl (Pv := fun v => v = .ref wo) (fun x hx => by obtain ⟨u1, u2, q9⟩ := hx; exact ⟨_, _, q9, rfl, rfl⟩) d_Ci_takeKey_52 (fun v hv => ?_)
        subst hv
        refine lv_iload hx hb d_Ci_takeKey_55 (lv_at hl 0 rfl) ?_
        refine lv_iconst (v := 1) hx hb d_Ci_takeKey_57 (by decide) ?_
        refine lv_isub hx hb d_Ci_takeKey_58 ?_
        refine gw_iald M hK hI hO (nb_in (nb_sub hk 1)) d_Ci_takeKey_59 (fun x5 h_x5 => ?_)
        refine lv_istore (lv' := [(7, .int x5), (6, .int y6), (5, .int y5), (0, .ref a), (1, .long kh), (3, .long kl)]) hx hb d_Ci_takeKey_60 hl (by decide) rfl (fun ls hl => ?_)
        refine lv_iload hx hb d_Ci_takeKey_62 (lv_at hl 1 rfl) ?_
        refine lv_iconst (v := 4) hx hb d_Ci_takeKey_64 (by decide) ?_
        refine lv_irem hx hb d_Ci_takeKey_65 (by decide) ?_
        refine lv_if_ne (tgt := 104) hx hb d_Ci_takeKey_66 (by decide) (fun c_66 => ?_) (fun c_66 => ?_)
        · refine lv_aload_n hx hb d_Ci_takeKey_104 rfl (lv_at hl 3 rfl) ?_
          refine gw_get M hK hI hC i_Ci rfl 0 (by decide) f_Ci_9 rfl (Pv := fun v => v = .ref wo) (fun x hx => by obtain ⟨u1, u2, q9⟩ := hx; exact ⟨_, _, q9, rfl, rfl⟩) d_Ci_takeKey_105 (fun v hv => ?_)
          subst hv
          refine lv_iload hx hb d_Ci_takeKey_108 (lv_at hl 1 rfl) ?_
          refine lv_aload_n hx hb d_Ci_takeKey_110 rfl (lv_at hl 3 rfl) ?_
          refine gw_get M hK hI hC i_Ci rfl 0 (by decide) f_Ci_9 rfl (Pv := fun v => v = .ref wo) (fun x hx => by obtain ⟨u1, u2, q9⟩ := hx; exact ⟨_, _, q9, rfl, rfl⟩) d_Ci_takeKey_111 (fun v hv => ?_)
          subst hv
          refine lv_iload hx hb d_Ci_takeKey_114 (lv_at hl 1 rfl) ?_
          refine lv_iconst (v := 4) hx hb d_Ci_takeKey_116 (by decide) ?_
          refine lv_isub hx hb d_Ci_takeKey_117 ?_
          refine gw_iald M hK hI hO (nb_in (nb_sub hk 4)) d_Ci_takeKey_118 (fun x6 h_x6 => ?_)
          refine lv_iload hx hb d_Ci_takeKey_119 (lv_at hl 0 rfl) ?_
          refine lv_ixor hx hb d_Ci_takeKey_121 ?_
          refine lv_topi (fun x7 e_x7 => ?_)
          refine gw_iast M hK hI hO (nb_in hk) trivial d_Ci_takeKey_122 (fun H locs hI => ?_)
          obtain ⟨x8, e_x8⟩ : ∃ ww9 : Int32, ww9 = y6 + 1 := ⟨_, rfl⟩
          refine lv_iinc (v := x8) (lv' := [(6, .int x8), (7, .int x5), (5, .int y5), (0, .ref a), (1, .long kh), (3, .long kl)]) hx hb d_Ci_takeKey_123 hl (k := 1) rfl (by rw [e_x8]; rfl) (by decide) rfl (fun ls hl => ?_)
          refine lv_goto (tgt := 44) hx hb d_Ci_takeKey_126 (by decide) ?_
          exact ih_44 (k + 1) y5 x8 _ _ _ (by omega) (by omega) (nb_s e_x8 hk) (by omega) hI (lv_sub hl [0, 2, 3, 4, 5] rfl)
        · refine lv_iload hx hb d_Ci_takeKey_69 (lv_at hl 0 rfl) ?_
          refine lv_bipush (v := 8) hx hb d_Ci_takeKey_71 (by decide) ?_
          refine gw_Si (As := [.int x5, .int 8]) (rest := []) M hK hI (c_Ci_turn l x5 8) k_Ci_turn m_Ci_20 rfl hl.1 rfl (Nat.le_of_ble_eq_true rfl) ⟨rfl, rfl, ⟨Nat.le_of_ble_eq_true rfl, Nat.le_of_ble_eq_true rfl⟩, ⟨Nat.le_of_ble_eq_true rfl, Nat.le_of_ble_eq_true rfl⟩⟩ d_Ci_takeKey_73 (fun x9 G9 H locs hw hI => ?_)
          rw [hw] at hI
          refine lv_istore (lv' := [(8, .int x9), (7, .int x5), (6, .int y6), (5, .int y5), (0, .ref a), (1, .long kh), (3, .long kl)]) hx hb d_Ci_takeKey_76 hl (by decide) rfl (fun ls hl => ?_)
          refine lv_iload hx hb d_Ci_takeKey_78 (lv_at hl 0 rfl) ?_
          refine lv_iload hx hb d_Ci_takeKey_80 (lv_at hl 0 rfl) ?_
          refine lv_iload hx hb d_Ci_takeKey_82 (lv_at hl 0 rfl) ?_
          refine lv_iload hx hb d_Ci_takeKey_84 (lv_at hl 0 rfl) ?_
          refine gw_Si (As := [.int x9, .int x9, .int x9, .int x9]) (rest := []) M hK hI (c_Ci_subAcross l x9 x9 x9 x9) k_Ci_subAcross m_Ci_24 rfl hl.1 rfl (Nat.le_of_ble_eq_true rfl) ⟨rfl, rfl, ⟨Nat.le_of_ble_eq_true rfl, Nat.le_of_ble_eq_true rfl⟩, ⟨Nat.le_of_ble_eq_true rfl, Nat.le_of_ble_eq_true rfl⟩⟩ d_Ci_takeKey_86 (fun x10 G9 H locs hw hI => ?_)
          rw [hw] at hI
          refine lv_iload hx hb d_Ci_takeKey_89 (lv_at hl 3 rfl) ?_
          refine lv_bipush (v := 24) hx hb d_Ci_takeKey_91 (by decide) ?_
          refine lv_ishl hx hb d_Ci_takeKey_93 ?_
          refine lv_ixor hx hb d_Ci_takeKey_94 ?_
          refine lv_topi (fun x11 e_x11 => ?_)
          refine lv_istore (lv' := [(7, .int x11), (8, .int x9), (6, .int y6), (5, .int y5), (0, .ref a), (1, .long kh), (3, .long kl)]) hx hb d_Ci_takeKey_95 hl (by decide) rfl (fun ls hl => ?_)
          refine lv_iload hx hb d_Ci_takeKey_97 (lv_at hl 3 rfl) ?_
          refine gw_Si (As := [.int y5]) (rest := []) M hK hI (c_Ci_doubled l y5) k_Ci_doubled m_Ci_28 rfl hl.1 rfl (Nat.le_of_ble_eq_true rfl) ⟨rfl, rfl, ⟨Nat.le_of_ble_eq_true rfl, Nat.le_of_ble_eq_true rfl⟩, ⟨Nat.le_of_ble_eq_true rfl, Nat.le_of_ble_eq_true rfl⟩⟩ d_Ci_takeKey_99 (fun x12 G9 H locs hw hI => ?_)
          rw [hw] at hI
          refine lv_istore (lv' := [(5, .int x12), (7, .int x11), (8, .int x9), (6, .int y6), (0, .ref a), (1, .long kh), (3, .long kl)]) hx hb d_Ci_takeKey_102 hl (by decide) rfl (fun ls hl => ?_)
          refine lv_aload_n hx hb d_Ci_takeKey_104 rfl (lv_at hl 4 rfl) ?_
          refine gw_get M hK hI hC i_Ci rfl 0 (by decide) f_Ci_9 rfl (Pv := fun v => v = .ref wo) (fun x hx => by obtain ⟨u1, u2, q9⟩ := hx; exact ⟨_, _, q9, rfl, rfl⟩) d_Ci_takeKey_105 (fun v hv => ?_)
          subst hv
          refine lv_iload hx hb d_Ci_takeKey_108 (lv_at hl 3 rfl) ?_
          refine lv_aload_n hx hb d_Ci_takeKey_110 rfl (lv_at hl 4 rfl) ?_
          refine gw_get M hK hI hC i_Ci rfl 0 (by decide) f_Ci_9 rfl (Pv := fun v => v = .ref wo) (fun x hx => by obtain ⟨u1, u2, q9⟩ := hx; exact ⟨_, _, q9, rfl, rfl⟩) d_Ci_takeKey_111 (fun v hv => ?_)
          subst hv
          refine lv_iload hx hb d_Ci_takeKey_114 (lv_at hl 3 rfl) ?_
          refine lv_iconst (v := 4) hx hb d_Ci_takeKey_116 (by decide) ?_
          refine lv_isub hx hb d_Ci_takeKey_117 ?_
          refine gw_iald M hK hI hO (nb_in (nb_sub hk 4)) d_Ci_takeKey_118 (fun x13 h_x13 => ?_)
          refine lv_iload hx hb d_Ci_takeKey_119 (lv_at hl 1 rfl) ?_
          refine lv_ixor hx hb d_Ci_takeKey_121 ?_
          refine lv_topi (fun x14 e_x14 => ?_)
          refine gw_iast M hK hI hO (nb_in hk) trivial d_Ci_takeKey_122 (fun H locs hI => ?_)
          obtain ⟨x15, e_x15⟩ : ∃ ww9 : Int32, ww9 = y6 + 1 := ⟨_, rfl⟩
          refine lv_iinc (v := x15) (lv' := [(6, .int x15), (5, .int x12), (7, .int x11), (8, .int x9), (0, .ref a), (1, .long kh), (3, .long kl)]) hx hb d_Ci_takeKey_123 hl (k := 3) rfl (by rw [e_x15]; rfl) (by decide) rfl (fun ls hl => ?_)
          refine lv_goto (tgt := 44) hx hb d_Ci_takeKey_126 (by decide) ?_
          exact ih_44 (k + 1) x12 x15 _ _ _ (by omega) (by omega) (nb_s e_x15 hk) (by omega) hI (lv_sub hl [0, 1, 4, 5, 6] rfl)
  exact L_44 _ 4 1 4 _ _ _ (Nat.le_refl 4) (by decide) rfl (Nat.lt_succ_self _) hI (lv_sub hl [0, 1, 2, 3, 4] rfl)

abbrev rm_Ci_encrypt : Room := { frames := 2, cells := 0, slots := 0, locals := 42 }
set_option maxHeartbeats 4000000 in
set_option maxRecDepth 100000 in
theorem c_Ci_encrypt (l : Launch) {D : gw_D} {Hs : Heap} {G : gw_G} (a wo : Nat) (z1 z2 z3 z4 : Int32) (hC : G a = some (kCi wo)) (hO : G wo = some (kA D 0 44 tT)) : Met l y_Ci_encrypt (Cond.code y_Ci_encrypt b_Ci_encrypt 15 none :: tb) rm_Ci_encrypt (gw_Pc D Hs G [.ref a, .int z1, .int z2, .int z3, .int z4]) (gw_Qv D Hs (fun G1 => G1 = G)) 0 0 (gw_A Hs) := by
  refine gw_met (by decide) (Nat.le_of_ble_eq_true rfl) ?_
  intro p e s m args below meth c M hK hr hlo hin hI ls hl
  have hx := M.1
  have hb := M.2.1
  have hl : lv_has ls 15 [(0, .ref a), (1, .int z1), (2, .int z2), (3, .int z3), (4, .int z4)] := hl
  refine lv_iload_n hx hb d_Ci_encrypt_0 rfl (lv_at hl 1 rfl) ?_
  refine lv_aload_n hx hb d_Ci_encrypt_1 rfl (lv_at hl 0 rfl) ?_
  refine gw_get M hK hI hC i_Ci rfl 0 (by decide) f_Ci_9 rfl (Pv := fun v => v = .ref wo) (fun x hx => by obtain ⟨u1, u2, q9⟩ := hx; exact ⟨_, _, q9, rfl, rfl⟩) d_Ci_encrypt_2 (fun v hv => ?_)
  subst hv
  refine lv_iconst (v := 0) hx hb d_Ci_encrypt_5 (by decide) ?_
  refine gw_iald M hK hI hO (vp_in_nI (n := 0) (by decide) (by decide)) d_Ci_encrypt_6 (fun x1 h_x1 => ?_)
  refine lv_ixor hx hb d_Ci_encrypt_7 ?_
  refine lv_topi (fun x2 e_x2 => ?_)
  refine lv_istore (lv' := [(5, .int x2), (0, .ref a), (1, .int z1), (2, .int z2), (3, .int z3), (4, .int z4)]) hx hb d_Ci_encrypt_8 hl (by decide) rfl (fun ls hl => ?_)
  refine lv_iload_n hx hb d_Ci_encrypt_10 rfl (lv_at hl 3 rfl) ?_
  refine lv_aload_n hx hb d_Ci_encrypt_11 rfl (lv_at hl 1 rfl) ?_
  refine gw_get M hK hI hC i_Ci rfl 0 (by decide) f_Ci_9 rfl (Pv := fun v => v = .ref wo) (fun x hx => by obtain ⟨u1, u2, q9⟩ := hx; exact ⟨_, _, q9, rfl, rfl⟩) d_Ci_encrypt_12 (fun v hv => ?_)
  subst hv
  refine lv_iconst (v := 1) hx hb d_Ci_encrypt_15 (by decide) ?_
  refine gw_iald M hK hI hO (vp_in_nI (n := 1) (by decide) (by decide)) d_Ci_encrypt_16 (fun x3 h_x3 => ?_)
  refine lv_ixor hx hb d_Ci_encrypt_17 ?_
  refine lv_topi (fun x4 e_x4 => ?_)
  refine lv_istore (lv' := [(6, .int x4), (5, .int x2), (0, .ref a), (1, .int z1), (2, .int z2), (3, .int z3), (4, .int z4)]) hx hb d_Ci_encrypt_18 hl (by decide) rfl (fun ls hl => ?_)
  refine lv_iload_n hx hb d_Ci_encrypt_20 rfl (lv_at hl 5 rfl) ?_
  refine lv_aload_n hx hb d_Ci_encrypt_21 rfl (lv_at hl 2 rfl) ?_
  refine gw_get M hK hI hC i_Ci rfl 0 (by decide) f_Ci_9 rfl (Pv := fun v => v = .ref wo) (fun x hx => by obtain ⟨u1, u2, q9⟩ := hx; exact ⟨_, _, q9, rfl, rfl⟩) d_Ci_encrypt_22 (fun v hv => ?_)
  subst hv
  refine lv_iconst (v := 2) hx hb d_Ci_encrypt_25 (by decide) ?_
  refine gw_iald M hK hI hO (vp_in_nI (n := 2) (by decide) (by decide)) d_Ci_encrypt_26 (fun x5 h_x5 => ?_)
  refine lv_ixor hx hb d_Ci_encrypt_27 ?_
  refine lv_topi (fun x6 e_x6 => ?_)
  refine lv_istore (lv' := [(7, .int x6), (6, .int x4), (5, .int x2), (0, .ref a), (1, .int z1), (2, .int z2), (3, .int z3), (4, .int z4)]) hx hb d_Ci_encrypt_28 hl (by decide) rfl (fun ls hl => ?_)
  refine lv_iload hx hb d_Ci_encrypt_30 (lv_at hl 7 rfl) ?_
  refine lv_aload_n hx hb d_Ci_encrypt_32 rfl (lv_at hl 3 rfl) ?_
  refine gw_get M hK hI hC i_Ci rfl 0 (by decide) f_Ci_9 rfl (Pv := fun v => v = .ref wo) (fun x hx => by obtain ⟨u1, u2, q9⟩ := hx; exact ⟨_, _, q9, rfl, rfl⟩) d_Ci_encrypt_33 (fun v hv => ?_)
  subst hv
  refine lv_iconst (v := 3) hx hb d_Ci_encrypt_36 (by decide) ?_
  refine gw_iald M hK hI hO (vp_in_nI (n := 3) (by decide) (by decide)) d_Ci_encrypt_37 (fun x7 h_x7 => ?_)
  refine lv_ixor hx hb d_Ci_encrypt_38 ?_
  refine lv_topi (fun x8 e_x8 => ?_)
  refine lv_istore (lv' := [(8, .int x8), (7, .int x6), (6, .int x4), (5, .int x2), (0, .ref a), (1, .int z1), (2, .int z2), (3, .int z3), (4, .int z4)]) hx hb d_Ci_encrypt_39 hl (by decide) rfl (fun ls hl => ?_)
  refine lv_iconst (v := 1) hx hb d_Ci_encrypt_41 (by decide) ?_
  refine lv_istore (lv' := [(9, .int 1), (8, .int x8), (7, .int x6), (6, .int x4), (5, .int x2), (0, .ref a), (1, .int z1), (2, .int z2), (3, .int z3), (4, .int z4)]) hx hb d_Ci_encrypt_42 hl (by decide) rfl (fun ls hl => ?_)
  have L_44 : ∀ (n9 : Nat) (k : Nat) (y5 : Int32) (y6 : Int32) (y7 : Int32) (y8 : Int32) (y9 : Int32) (H : Heap) (locs : List Loc) (ls : Array Slot), 1 ≤ k → k ≤ 11 → y9 = nI k → 11 - k < n9 → gw_I D Hs G s.heap H locs → lv_has ls 15 [(9, .int y9), (8, .int y8), (7, .int y7), (6, .int y6), (5, .int y5), (0, .ref a), (1, .int z1), (2, .int z2), (3, .int z3), (4, .int z4)] → W p l e rm_Ci_encrypt s m args below meth c H locs 0 0 (MQ below (gw_Qv D Hs (fun G1 => G1 = G)) args s 0 0 (gw_A Hs)) (F0 m 44 ls []) := by
    intro n9
    induction n9 with
    | zero =>
      intro k y5 y6 y7 y8 y9 H locs ls h1 h11 hk hm hI hl
      exact absurd hm (Nat.not_lt_zero _)
    | succ n9 ih_44 =>
      intro k y5 y6 y7 y8 y9 H locs ls h1 h11 hk hm hI hl
      refine lv_iload hx hb d_Ci_encrypt_44 (lv_at hl 0 rfl) ?_
      refine lv_bipush (v := 10) hx hb d_Ci_encrypt_46 (by decide) ?_
      refine lv_icmp_gt (tgt := 237) hx hb d_Ci_encrypt_48 (by decide) (fun c_48 => ?_) (fun c_48 => ?_)
      · refine lv_aload_n hx hb d_Ci_encrypt_237 rfl (lv_at hl 5 rfl) ?_
        refine lv_iload hx hb d_Ci_encrypt_238 (lv_at hl 4 rfl) ?_
        refine lv_i2l hx hb d_Ci_encrypt_240 rfl ?_
        refine lv_bipush (v := 32) hx hb d_Ci_encrypt_241 (by decide) ?_
        refine lv_lshl hx hb d_Ci_encrypt_243 rfl ?_
        refine lv_iload hx hb d_Ci_encrypt_244 (lv_at hl 3 rfl) ?_
        refine gw_Sl (As := [.int y6]) (rest := [.long (((y5).toInt64) <<< (((32 : Int32)).toInt64 &&& 63)), .ref a]) M hK hI (c_Ci_unsigned l y6) k_Ci_unsigned m_Ci_35 rfl hl.1 rfl (Nat.le_of_ble_eq_true rfl) ⟨rfl, rfl, ⟨Nat.le_of_ble_eq_true rfl, Nat.le_of_ble_eq_true rfl⟩, ⟨Nat.le_of_ble_eq_true rfl, Nat.le_of_ble_eq_true rfl⟩⟩ d_Ci_encrypt_246 (fun x9 G9 H locs hw hI => ?_)
        rw [hw] at hI
        refine lv_lor hx hb d_Ci_encrypt_249 ?_
        refine lv_topl (fun x10 e_x10 => ?_)
        refine gw_put M hK hI hC i_Ci t_Ci tk_Ci n_Ci rfl 1 (by decide) f_Ci_13 rfl rfl rfl (kCi wo) (fun x hx => by obtain ⟨u1, u2, q9⟩ := hx; exact ⟨_, q9, Nat.le_of_ble_eq_true rfl, ⟨_, u2, rfl⟩⟩) d_Ci_encrypt_250 (fun H locs hI => ?_)
        rw [gw_up_id hC] at hI
        refine lv_aload_n hx hb d_Ci_encrypt_253 rfl (lv_at hl 5 rfl) ?_
        refine lv_iload hx hb d_Ci_encrypt_254 (lv_at hl 2 rfl) ?_
        refine lv_i2l hx hb d_Ci_encrypt_256 rfl ?_
        refine lv_bipush (v := 32) hx hb d_Ci_encrypt_257 (by decide) ?_
        refine lv_lshl hx hb d_Ci_encrypt_259 rfl ?_
        refine lv_iload hx hb d_Ci_encrypt_260 (lv_at hl 1 rfl) ?_
        refine gw_Sl (As := [.int y8]) (rest := [.long (((y7).toInt64) <<< (((32 : Int32)).toInt64 &&& 63)), .ref a]) M hK hI (c_Ci_unsigned l y8) k_Ci_unsigned m_Ci_35 rfl hl.1 rfl (Nat.le_of_ble_eq_true rfl) ⟨rfl, rfl, ⟨Nat.le_of_ble_eq_true rfl, Nat.le_of_ble_eq_true rfl⟩, ⟨Nat.le_of_ble_eq_true rfl, Nat.le_of_ble_eq_true rfl⟩⟩ d_Ci_encrypt_262 (fun x11 G9 H locs hw hI => ?_)
        rw [hw] at hI
        refine lv_lor hx hb d_Ci_encrypt_265 ?_
        refine lv_topl (fun x12 e_x12 => ?_)
        refine gw_put M hK hI hC i_Ci t_Ci tk_Ci n_Ci rfl 2 (by decide) f_Ci_17 rfl rfl rfl (kCi wo) (fun x hx => by obtain ⟨u1, u2, q9⟩ := hx; exact ⟨_, q9, Nat.le_of_ble_eq_true rfl, ⟨u1, _, rfl⟩⟩) d_Ci_encrypt_266 (fun H locs hI => ?_)
        rw [gw_up_id hC] at hI
        exact gw_vret M hr hlo hI d_Ci_encrypt_269 rfl
      · have hlt : k ≤ 10 := nb_le (n := 10) hk c_48
        have J_63 : ∀ (j63 : Int32) (H : Heap) (locs : List Loc) (ls : Array Slot), gw_I D Hs G s.heap H locs → lv_has ls 15 [(9, .int y9), (8, .int y8), (7, .int y7), (6, .int y6), (5, .int y5), (0, .ref a), (1, .int z1), (2, .int z2), (3, .int z3), (4, .int z4)] → W p l e rm_Ci_encrypt s m args below meth c H locs 0 0 (MQ below (gw_Qv D Hs (fun G1 => G1 = G)) args s 0 0 (gw_A Hs)) (F0 m 63 ls [.int j63]) := by
          intro j63 H locs ls  hI hl
          refine lv_istore (lv' := [(10, .int j63), (9, .int y9), (8, .int y8), (7, .int y7), (6, .int y6), (5, .int y5), (0, .ref a), (1, .int z1), (2, .int z2), (3, .int z3), (4, .int z4)]) hx hb d_Ci_encrypt_63 hl (by decide) rfl (fun ls hl => ?_)
          refine lv_iload hx hb d_Ci_encrypt_65 (lv_at hl 5 rfl) ?_
          refine lv_iload hx hb d_Ci_encrypt_67 (lv_at hl 4 rfl) ?_
          refine lv_iload hx hb d_Ci_encrypt_69 (lv_at hl 3 rfl) ?_
          refine lv_iload hx hb d_Ci_encrypt_71 (lv_at hl 2 rfl) ?_
          refine gw_Si (As := [.int y5, .int y6, .int y7, .int y8]) (rest := []) M hK hI (c_Ci_subAcross l y5 y6 y7 y8) k_Ci_subAcross m_Ci_24 rfl hl.1 rfl (Nat.le_of_ble_eq_true rfl) ⟨rfl, rfl, ⟨Nat.le_of_ble_eq_true rfl, Nat.le_of_ble_eq_true rfl⟩, ⟨Nat.le_of_ble_eq_true rfl, Nat.le_of_ble_eq_true rfl⟩⟩ d_Ci_encrypt_73 (fun x13 G9 H locs hw hI => ?_)
          rw [hw] at hI
          refine lv_istore (lv' := [(11, .int x13), (10, .int j63), (9, .int y9), (8, .int y8), (7, .int y7), (6, .int y6), (5, .int y5), (0, .ref a), (1, .int z1), (2, .int z2), (3, .int z3), (4, .int z4)]) hx hb d_Ci_encrypt_76 hl (by decide) rfl (fun ls hl => ?_)
          refine lv_iload hx hb d_Ci_encrypt_78 (lv_at hl 5 rfl) ?_
          refine lv_iload hx hb d_Ci_encrypt_80 (lv_at hl 4 rfl) ?_
          refine lv_iload hx hb d_Ci_encrypt_82 (lv_at hl 3 rfl) ?_
          refine lv_iload hx hb d_Ci_encrypt_84 (lv_at hl 6 rfl) ?_
          refine gw_Si (As := [.int y6, .int y7, .int y8, .int y5]) (rest := []) M hK hI (c_Ci_subAcross l y6 y7 y8 y5) k_Ci_subAcross m_Ci_24 rfl hl.1 rfl (Nat.le_of_ble_eq_true rfl) ⟨rfl, rfl, ⟨Nat.le_of_ble_eq_true rfl, Nat.le_of_ble_eq_true rfl⟩, ⟨Nat.le_of_ble_eq_true rfl, Nat.le_of_ble_eq_true rfl⟩⟩ d_Ci_encrypt_86 (fun x14 G9 H locs hw hI => ?_)
          rw [hw] at hI
          refine lv_istore (lv' := [(12, .int x14), (11, .int x13), (10, .int j63), (9, .int y9), (8, .int y8), (7, .int y7), (6, .int y6), (5, .int y5), (0, .ref a), (1, .int z1), (2, .int z2), (3, .int z3), (4, .int z4)]) hx hb d_Ci_encrypt_89 hl (by decide) rfl (fun ls hl => ?_)
          refine lv_iload hx hb d_Ci_encrypt_91 (lv_at hl 5 rfl) ?_
          refine lv_iload hx hb d_Ci_encrypt_93 (lv_at hl 4 rfl) ?_
          refine lv_iload hx hb d_Ci_encrypt_95 (lv_at hl 7 rfl) ?_
          refine lv_iload hx hb d_Ci_encrypt_97 (lv_at hl 6 rfl) ?_
          refine gw_Si (As := [.int y7, .int y8, .int y5, .int y6]) (rest := []) M hK hI (c_Ci_subAcross l y7 y8 y5 y6) k_Ci_subAcross m_Ci_24 rfl hl.1 rfl (Nat.le_of_ble_eq_true rfl) ⟨rfl, rfl, ⟨Nat.le_of_ble_eq_true rfl, Nat.le_of_ble_eq_true rfl⟩, ⟨Nat.le_of_ble_eq_true rfl, Nat.le_of_ble_eq_true rfl⟩⟩ d_Ci_encrypt_99 (fun x15 G9 H locs hw hI => ?_)
          rw [hw] at hI
          refine lv_istore (lv' := [(13, .int x15), (12, .int x14), (11, .int x13), (10, .int j63), (9, .int y9), (8, .int y8), (7, .int y7), (6, .int y6), (5, .int y5), (0, .ref a), (1, .int z1), (2, .int z2), (3, .int z3), (4, .int z4)]) hx hb d_Ci_encrypt_102 hl (by decide) rfl (fun ls hl => ?_)
          refine lv_iload hx hb d_Ci_encrypt_104 (lv_at hl 5 rfl) ?_
          refine lv_iload hx hb d_Ci_encrypt_106 (lv_at hl 8 rfl) ?_
          refine lv_iload hx hb d_Ci_encrypt_108 (lv_at hl 7 rfl) ?_
          refine lv_iload hx hb d_Ci_encrypt_110 (lv_at hl 6 rfl) ?_
          refine gw_Si (As := [.int y8, .int y5, .int y6, .int y7]) (rest := []) M hK hI (c_Ci_subAcross l y8 y5 y6 y7) k_Ci_subAcross m_Ci_24 rfl hl.1 rfl (Nat.le_of_ble_eq_true rfl) ⟨rfl, rfl, ⟨Nat.le_of_ble_eq_true rfl, Nat.le_of_ble_eq_true rfl⟩, ⟨Nat.le_of_ble_eq_true rfl, Nat.le_of_ble_eq_true rfl⟩⟩ d_Ci_encrypt_112 (fun x16 G9 H locs hw hI => ?_)
          rw [hw] at hI
          refine lv_istore (lv' := [(14, .int x16), (13, .int x15), (12, .int x14), (11, .int x13), (10, .int j63), (9, .int y9), (8, .int y8), (7, .int y7), (6, .int y6), (5, .int y5), (0, .ref a), (1, .int z1), (2, .int z2), (3, .int z3), (4, .int z4)]) hx hb d_Ci_encrypt_115 hl (by decide) rfl (fun ls hl => ?_)
          have J_132 : ∀ (j132 : Int32) (H : Heap) (locs : List Loc) (ls : Array Slot), gw_I D Hs G s.heap H locs → lv_has ls 15 [(14, .int x16), (13, .int x15), (12, .int x14), (11, .int x13), (10, .int j63), (9, .int y9), (8, .int y8), (7, .int y7), (6, .int y6), (5, .int y5), (0, .ref a), (1, .int z1), (2, .int z2), (3, .int z3), (4, .int z4)] → W p l e rm_Ci_encrypt s m args below meth c H locs 0 0 (MQ below (gw_Qv D Hs (fun G1 => G1 = G)) args s 0 0 (gw_A Hs)) (F0 m 132 ls [.int j132]) := by
            intro j132 H locs ls  hI hl
            refine lv_aload_n hx hb d_Ci_encrypt_132 rfl (lv_at hl 10 rfl) ?_
            refine gw_get M hK hI hC i_Ci rfl 0 (by decide) f_Ci_9 rfl (Pv := fun v => v = .ref wo) (fun x hx => by obtain ⟨u1, u2, q9⟩ := hx; exact ⟨_, _, q9, rfl, rfl⟩) d_Ci_encrypt_133 (fun v hv => ?_)
            subst hv
            refine lv_iconst (v := 4) hx hb d_Ci_encrypt_136 (by decide) ?_
            refine lv_iload hx hb d_Ci_encrypt_137 (lv_at hl 5 rfl) ?_
            refine lv_imul hx hb d_Ci_encrypt_139 ?_
            refine gw_iald M hK hI hO (nb_in (nb_mul hk 4)) d_Ci_encrypt_140 (fun x17 h_x17 => ?_)
            refine lv_ixor hx hb d_Ci_encrypt_141 ?_
            refine lv_topi (fun x18 e_x18 => ?_)
            refine lv_istore (lv' := [(5, .int x18), (14, .int x16), (13, .int x15), (12, .int x14), (11, .int x13), (10, .int j63), (9, .int y9), (8, .int y8), (7, .int y7), (6, .int y6), (0, .ref a), (1, .int z1), (2, .int z2), (3, .int z3), (4, .int z4)]) hx hb d_Ci_encrypt_142 hl (by decide) rfl (fun ls hl => ?_)
            have J_159 : ∀ (j159 : Int32) (H : Heap) (locs : List Loc) (ls : Array Slot), gw_I D Hs G s.heap H locs → lv_has ls 15 [(5, .int x18), (14, .int x16), (13, .int x15), (12, .int x14), (11, .int x13), (10, .int j63), (9, .int y9), (8, .int y8), (7, .int y7), (6, .int y6), (0, .ref a), (1, .int z1), (2, .int z2), (3, .int z3), (4, .int z4)] → W p l e rm_Ci_encrypt s m args below meth c H locs 0 0 (MQ below (gw_Qv D Hs (fun G1 => G1 = G)) args s 0 0 (gw_A Hs)) (F0 m 159 ls [.int j159]) := by
              intro j159 H locs ls  hI hl
              refine lv_aload_n hx hb d_Ci_encrypt_159 rfl (lv_at hl 10 rfl) ?_
              refine gw_get M hK hI hC i_Ci rfl 0 (by decide) f_Ci_9 rfl (Pv := fun v => v = .ref wo) (fun x hx => by obtain ⟨u1, u2, q9⟩ := hx; exact ⟨_, _, q9, rfl, rfl⟩) d_Ci_encrypt_160 (fun v hv => ?_)
              subst hv
              refine lv_iconst (v := 4) hx hb d_Ci_encrypt_163 (by decide) ?_
              refine lv_iload hx hb d_Ci_encrypt_164 (lv_at hl 6 rfl) ?_
              refine lv_imul hx hb d_Ci_encrypt_166 ?_
              refine lv_iconst (v := 1) hx hb d_Ci_encrypt_167 (by decide) ?_
              refine lv_iadd hx hb d_Ci_encrypt_168 ?_
              refine gw_iald M hK hI hO (nb_in (nb_add (nb_mul hk 4) 1)) d_Ci_encrypt_169 (fun x19 h_x19 => ?_)
              refine lv_ixor hx hb d_Ci_encrypt_170 ?_
              refine lv_topi (fun x20 e_x20 => ?_)
              refine lv_istore (lv' := [(6, .int x20), (5, .int x18), (14, .int x16), (13, .int x15), (12, .int x14), (11, .int x13), (10, .int j63), (9, .int y9), (8, .int y8), (7, .int y7), (0, .ref a), (1, .int z1), (2, .int z2), (3, .int z3), (4, .int z4)]) hx hb d_Ci_encrypt_171 hl (by decide) rfl (fun ls hl => ?_)
              have J_188 : ∀ (j188 : Int32) (H : Heap) (locs : List Loc) (ls : Array Slot), gw_I D Hs G s.heap H locs → lv_has ls 15 [(6, .int x20), (5, .int x18), (14, .int x16), (13, .int x15), (12, .int x14), (11, .int x13), (10, .int j63), (9, .int y9), (8, .int y8), (7, .int y7), (0, .ref a), (1, .int z1), (2, .int z2), (3, .int z3), (4, .int z4)] → W p l e rm_Ci_encrypt s m args below meth c H locs 0 0 (MQ below (gw_Qv D Hs (fun G1 => G1 = G)) args s 0 0 (gw_A Hs)) (F0 m 188 ls [.int j188]) := by
                intro j188 H locs ls  hI hl
                refine lv_aload_n hx hb d_Ci_encrypt_188 rfl (lv_at hl 10 rfl) ?_
                refine gw_get M hK hI hC i_Ci rfl 0 (by decide) f_Ci_9 rfl (Pv := fun v => v = .ref wo) (fun x hx => by obtain ⟨u1, u2, q9⟩ := hx; exact ⟨_, _, q9, rfl, rfl⟩) d_Ci_encrypt_189 (fun v hv => ?_)
                subst hv
                refine lv_iconst (v := 4) hx hb d_Ci_encrypt_192 (by decide) ?_
                refine lv_iload hx hb d_Ci_encrypt_193 (lv_at hl 7 rfl) ?_
                refine lv_imul hx hb d_Ci_encrypt_195 ?_
                refine lv_iconst (v := 2) hx hb d_Ci_encrypt_196 (by decide) ?_
                refine lv_iadd hx hb d_Ci_encrypt_197 ?_
                refine gw_iald M hK hI hO (nb_in (nb_add (nb_mul hk 4) 2)) d_Ci_encrypt_198 (fun x21 h_x21 => ?_)
                refine lv_ixor hx hb d_Ci_encrypt_199 ?_
                refine lv_topi (fun x22 e_x22 => ?_)
                refine lv_istore (lv' := [(7, .int x22), (6, .int x20), (5, .int x18), (14, .int x16), (13, .int x15), (12, .int x14), (11, .int x13), (10, .int j63), (9, .int y9), (8, .int y8), (0, .ref a), (1, .int z1), (2, .int z2), (3, .int z3), (4, .int z4)]) hx hb d_Ci_encrypt_200 hl (by decide) rfl (fun ls hl => ?_)
                have J_217 : ∀ (j217 : Int32) (H : Heap) (locs : List Loc) (ls : Array Slot), gw_I D Hs G s.heap H locs → lv_has ls 15 [(7, .int x22), (6, .int x20), (5, .int x18), (14, .int x16), (13, .int x15), (12, .int x14), (11, .int x13), (10, .int j63), (9, .int y9), (8, .int y8), (0, .ref a), (1, .int z1), (2, .int z2), (3, .int z3), (4, .int z4)] → W p l e rm_Ci_encrypt s m args below meth c H locs 0 0 (MQ below (gw_Qv D Hs (fun G1 => G1 = G)) args s 0 0 (gw_A Hs)) (F0 m 217 ls [.int j217]) := by
                  intro j217 H locs ls  hI hl
                  refine lv_aload_n hx hb d_Ci_encrypt_217 rfl (lv_at hl 10 rfl) ?_
                  refine gw_get M hK hI hC i_Ci rfl 0 (by decide) f_Ci_9 rfl (Pv := fun v => v = .ref wo) (fun x hx => by obtain ⟨u1, u2, q9⟩ := hx; exact ⟨_, _, q9, rfl, rfl⟩) d_Ci_encrypt_218 (fun v hv => ?_)
                  subst hv
                  refine lv_iconst (v := 4) hx hb d_Ci_encrypt_221 (by decide) ?_
                  refine lv_iload hx hb d_Ci_encrypt_222 (lv_at hl 8 rfl) ?_
                  refine lv_imul hx hb d_Ci_encrypt_224 ?_
                  refine lv_iconst (v := 3) hx hb d_Ci_encrypt_225 (by decide) ?_
                  refine lv_iadd hx hb d_Ci_encrypt_226 ?_
                  refine gw_iald M hK hI hO (nb_in (nb_add (nb_mul hk 4) 3)) d_Ci_encrypt_227 (fun x23 h_x23 => ?_)
                  refine lv_ixor hx hb d_Ci_encrypt_228 ?_
                  refine lv_topi (fun x24 e_x24 => ?_)
                  refine lv_istore (lv' := [(8, .int x24), (7, .int x22), (6, .int x20), (5, .int x18), (14, .int x16), (13, .int x15), (12, .int x14), (11, .int x13), (10, .int j63), (9, .int y9), (0, .ref a), (1, .int z1), (2, .int z2), (3, .int z3), (4, .int z4)]) hx hb d_Ci_encrypt_229 hl (by decide) rfl (fun ls hl => ?_)
                  obtain ⟨x25, e_x25⟩ : ∃ ww9 : Int32, ww9 = y9 + 1 := ⟨_, rfl⟩
                  refine lv_iinc (v := x25) (lv' := [(9, .int x25), (8, .int x24), (7, .int x22), (6, .int x20), (5, .int x18), (14, .int x16), (13, .int x15), (12, .int x14), (11, .int x13), (10, .int j63), (0, .ref a), (1, .int z1), (2, .int z2), (3, .int z3), (4, .int z4)]) hx hb d_Ci_encrypt_231 hl (k := 9) rfl (by rw [e_x25]; rfl) (by decide) rfl (fun ls hl => ?_)
                  refine lv_goto (tgt := 44) hx hb d_Ci_encrypt_234 (by decide) ?_
                  exact ih_44 (k + 1) x18 x20 x22 x24 x25 _ _ _ (by omega) (by omega) (nb_s e_x25 hk) (by omega) hI (lv_sub hl [0, 1, 2, 3, 4, 10, 11, 12, 13, 14] rfl)
                refine lv_iload hx hb d_Ci_encrypt_202 (lv_at hl 7 rfl) ?_
                refine lv_if_eq (tgt := 215) hx hb d_Ci_encrypt_204 (by decide) (fun c_204 => ?_) (fun c_204 => ?_)
                · refine lv_iload hx hb d_Ci_encrypt_215 (lv_at hl 3 rfl) ?_
                  exact J_217 x16 _ _ _  hI (lv_sub hl [0, 1, 2, 3, 4, 5, 6, 7, 8, 9, 10, 11, 12, 13, 14] rfl)
                · refine lv_iload hx hb d_Ci_encrypt_207 (lv_at hl 3 rfl) ?_
                  refine gw_Si (As := [.int x16]) (rest := []) M hK hI (c_Ci_mixed l x16) k_Ci_mixed m_Ci_32 rfl hl.1 rfl (Nat.le_of_ble_eq_true rfl) ⟨rfl, rfl, ⟨Nat.le_of_ble_eq_true rfl, Nat.le_of_ble_eq_true rfl⟩, ⟨Nat.le_of_ble_eq_true rfl, Nat.le_of_ble_eq_true rfl⟩⟩ d_Ci_encrypt_209 (fun x26 G9 H locs hw hI => ?_)
                  rw [hw] at hI
                  refine lv_goto (tgt := 217) hx hb d_Ci_encrypt_212 (by decide) ?_
                  exact J_217 x26 _ _ _  hI (lv_sub hl [0, 1, 2, 3, 4, 5, 6, 7, 8, 9, 10, 11, 12, 13, 14] rfl)
              refine lv_iload hx hb d_Ci_encrypt_173 (lv_at hl 6 rfl) ?_
              refine lv_if_eq (tgt := 186) hx hb d_Ci_encrypt_175 (by decide) (fun c_175 => ?_) (fun c_175 => ?_)
              · refine lv_iload hx hb d_Ci_encrypt_186 (lv_at hl 3 rfl) ?_
                exact J_188 x15 _ _ _  hI (lv_sub hl [0, 1, 2, 3, 4, 5, 6, 7, 8, 9, 10, 11, 12, 13, 14] rfl)
              · refine lv_iload hx hb d_Ci_encrypt_178 (lv_at hl 3 rfl) ?_
                refine gw_Si (As := [.int x15]) (rest := []) M hK hI (c_Ci_mixed l x15) k_Ci_mixed m_Ci_32 rfl hl.1 rfl (Nat.le_of_ble_eq_true rfl) ⟨rfl, rfl, ⟨Nat.le_of_ble_eq_true rfl, Nat.le_of_ble_eq_true rfl⟩, ⟨Nat.le_of_ble_eq_true rfl, Nat.le_of_ble_eq_true rfl⟩⟩ d_Ci_encrypt_180 (fun x27 G9 H locs hw hI => ?_)
                rw [hw] at hI
                refine lv_goto (tgt := 188) hx hb d_Ci_encrypt_183 (by decide) ?_
                exact J_188 x27 _ _ _  hI (lv_sub hl [0, 1, 2, 3, 4, 5, 6, 7, 8, 9, 10, 11, 12, 13, 14] rfl)
            refine lv_iload hx hb d_Ci_encrypt_144 (lv_at hl 5 rfl) ?_
            refine lv_if_eq (tgt := 157) hx hb d_Ci_encrypt_146 (by decide) (fun c_146 => ?_) (fun c_146 => ?_)
            · refine lv_iload hx hb d_Ci_encrypt_157 (lv_at hl 3 rfl) ?_
              exact J_159 x14 _ _ _  hI (lv_sub hl [0, 1, 2, 3, 4, 5, 6, 7, 8, 9, 10, 11, 12, 13, 14] rfl)
            · refine lv_iload hx hb d_Ci_encrypt_149 (lv_at hl 3 rfl) ?_
              refine gw_Si (As := [.int x14]) (rest := []) M hK hI (c_Ci_mixed l x14) k_Ci_mixed m_Ci_32 rfl hl.1 rfl (Nat.le_of_ble_eq_true rfl) ⟨rfl, rfl, ⟨Nat.le_of_ble_eq_true rfl, Nat.le_of_ble_eq_true rfl⟩, ⟨Nat.le_of_ble_eq_true rfl, Nat.le_of_ble_eq_true rfl⟩⟩ d_Ci_encrypt_151 (fun x28 G9 H locs hw hI => ?_)
              rw [hw] at hI
              refine lv_goto (tgt := 159) hx hb d_Ci_encrypt_154 (by decide) ?_
              exact J_159 x28 _ _ _  hI (lv_sub hl [0, 1, 2, 3, 4, 5, 6, 7, 8, 9, 10, 11, 12, 13, 14] rfl)
          refine lv_iload hx hb d_Ci_encrypt_117 (lv_at hl 4 rfl) ?_
          refine lv_if_eq (tgt := 130) hx hb d_Ci_encrypt_119 (by decide) (fun c_119 => ?_) (fun c_119 => ?_)
          · refine lv_iload hx hb d_Ci_encrypt_130 (lv_at hl 3 rfl) ?_
            exact J_132 x13 _ _ _  hI (lv_sub hl [0, 1, 2, 3, 4, 5, 6, 7, 8, 9, 10, 11, 12, 13, 14] rfl)
          · refine lv_iload hx hb d_Ci_encrypt_122 (lv_at hl 3 rfl) ?_
            refine gw_Si (As := [.int x13]) (rest := []) M hK hI (c_Ci_mixed l x13) k_Ci_mixed m_Ci_32 rfl hl.1 rfl (Nat.le_of_ble_eq_true rfl) ⟨rfl, rfl, ⟨Nat.le_of_ble_eq_true rfl, Nat.le_of_ble_eq_true rfl⟩, ⟨Nat.le_of_ble_eq_true rfl, Nat.le_of_ble_eq_true rfl⟩⟩ d_Ci_encrypt_124 (fun x29 G9 H locs hw hI => ?_)
            rw [hw] at hI
            refine lv_goto (tgt := 132) hx hb d_Ci_encrypt_127 (by decide) ?_
            exact J_132 x29 _ _ _  hI (lv_sub hl [0, 1, 2, 3, 4, 5, 6, 7, 8, 9, 10, 11, 12, 13, 14] rfl)
        refine lv_iload hx hb d_Ci_encrypt_51 (lv_at hl 0 rfl) ?_
        refine lv_bipush (v := 10) hx hb d_Ci_encrypt_53 (by decide) ?_
        refine lv_icmp_ge (tgt := 62) hx hb d_Ci_encrypt_55 (by decide) (fun c_55 => ?_) (fun c_55 => ?_)
        · refine lv_iconst (v := 0) hx hb d_Ci_encrypt_62 (by decide) ?_
          exact J_63 0 _ _ _  hI (lv_sub hl [0, 1, 2, 3, 4, 5, 6, 7, 8, 9] rfl)
        · refine lv_iconst (v := 1) hx hb d_Ci_encrypt_58 (by decide) ?_
          refine lv_goto (tgt := 63) hx hb d_Ci_encrypt_59 (by decide) ?_
          exact J_63 1 _ _ _  hI (lv_sub hl [0, 1, 2, 3, 4, 5, 6, 7, 8, 9] rfl)
  exact L_44 _ 1 x2 x4 x6 x8 1 _ _ _ (Nat.le_refl 1) (by decide) rfl (Nat.lt_succ_self _) hI (lv_sub hl [0, 1, 2, 3, 4, 5, 6, 7, 8, 9] rfl)
