theorem n1_of {x : Int32} (h1 : ¬ x < 1) (h8 : x ≤ 8) : ∃ k : Nat, 1 ≤ k ∧ k ≤ 8 ∧ x = nI k := by
  have h0 : ¬ x < 0 := fun q => h1 (by rw [Int32.lt_iff_toInt_lt] at q ⊢; have e0 : (0 : Int32).toInt = 0 := rfl; have e1 : (1 : Int32).toInt = 1 := rfl; omega)
  obtain ⟨k, hk, rfl⟩ := nI_of2 (M := 8) (n := 8) rfl h0 h8
  exact ⟨k, nb_ge' (n := 1) rfl h1, hk, rfl⟩
theorem n0_of {x : Int32} {n : Nat} {N : Int32} (hN : N.toInt = n) (h0 : ¬ x < 0) (h8 : x ≤ N) : ∃ k : Nat, k ≤ n ∧ x = nI k := nI_of2 (M := N) hN h0 h8

abbrev rm_Mo_thrown : Room := { frames := 0, cells := 0, slots := 0, locals := 0 }
set_option maxHeartbeats 4000000 in
set_option maxRecDepth 100000 in
theorem c_Mo_thrown (l : Launch) {D : gw_D} {Hs : Heap} {G : gw_G}  (o : Nat) (q : Nat → Nat) (t0 f0 l0 g0 : Int32) (hO : G o = some (kx (mo_ob q t0 f0 l0 g0))) (hA : mo_ok D tZ q G) : Met l y_Mo_thrown (Cond.code y_Mo_thrown b_Mo_thrown 1 (some .int) :: tb) rm_Mo_thrown (gw_Pc D Hs G [.ref o]) (gw_Qi D Hs (fun r G1 => r = t0 ∧ G1 = G)) 0 0 (gw_A Hs) := by
  refine gw_met (by decide) (Nat.le_of_ble_eq_true rfl) ?_
  intro p e s m args below meth c M hK hr hlo hin hI ls hl
  have hx := M.1
  have hb := M.2.1
  have hl : lv_has ls 1 [(0, .ref o)] := hl
  refine lv_aload_n hx hb d_Mo_thrown_0 rfl (lv_at hl 0 rfl) ?_
  refine gw_get M hK hI hO i_Mo rfl 0 (by decide) f_Mo_94 rfl (Pv := fun v => v = .int t0) (fun x hx => ⟨_, _, hx, rfl, rfl⟩) d_Mo_thrown_1 (fun v hv => ?_)
  subst hv
  exact gw_iret M hr hlo hI d_Mo_thrown_4 (⟨rfl, rfl⟩)

abbrev rm_Mo_find : Room := { frames := 0, cells := 0, slots := 0, locals := 0 }
set_option maxHeartbeats 4000000 in
set_option maxRecDepth 100000 in
theorem c_Mo_find (l : Launch) {D : gw_D} {Hs : Heap} {G : gw_G} (n1 : Int32) (o : Nat) (q : Nat → Nat) (t0 f0 l0 g0 : Int32) (hO : G o = some (kx (mo_ob q t0 f0 l0 g0))) (hA : mo_ok D tZ q G) : Met l y_Mo_find (Cond.code y_Mo_find b_Mo_find 3 (some .int) :: tb) rm_Mo_find (gw_Pc D Hs G [.ref o, .int n1]) (gw_Qi D Hs (fun r G1 => r = -1 ∧ G1 = G)) 0 0 (gw_A Hs) := by
  refine gw_met (by decide) (Nat.le_of_ble_eq_true rfl) ?_
  intro p e s m args below meth c M hK hr hlo hin hI ls hl
  have hx := M.1
  have hb := M.2.1
  have hl : lv_has ls 3 [(0, .ref o), (1, .int n1)] := hl
  refine lv_iconst (v := 0) hx hb d_Mo_find_0 (by decide) ?_
  refine lv_istore_n (lv' := [(2, .int 0), (0, .ref o), (1, .int n1)]) hx hb d_Mo_find_1 rfl hl (by decide) rfl (fun ls hl => ?_)
  have L_2 : ∀ (n9 : Nat) (k : Nat) (y2 : Int32) (H : Heap) (locs : List Loc) (ls : Array Slot), k ≤ 16 → y2 = nI k → 16 - k < n9 → gw_I D Hs G s.heap H locs → lv_has ls 3 [(2, .int y2), (0, .ref o), (1, .int n1)] → W p l e rm_Mo_find s m args below meth c H locs 0 0 (MQ below (gw_Qi D Hs (fun r G1 => r = -1 ∧ G1 = G)) args s 0 0 (gw_A Hs)) (F0 m 2 ls []) := by
    intro n9
    induction n9 with
    | zero =>
      intro k y2 H locs ls h16 hk hm hI hl
      exact absurd hm (Nat.not_lt_zero _)
    | succ n9 ih_2 =>
      intro k y2 H locs ls h16 hk hm_2 hI hl
      refine lv_iload_n hx hb d_Mo_find_2 rfl (lv_at hl 0 rfl) ?_
      refine lv_bipush (v := 16) hx hb d_Mo_find_3 (by decide) ?_
      refine lv_icmp_ge (tgt := 35) hx hb d_Mo_find_5 (by decide) (fun c_5 => ?_) (fun c_5 => ?_)
      · refine lv_iconst (v := (-1)) hx hb d_Mo_find_35 (by decide) ?_
        exact gw_iret M hr hlo hI d_Mo_find_36 (⟨rfl, rfl⟩)
      · have hlt : k < 16 := nb_lt (n := 16) hk c_5 (by decide) (z_31 h16)
        refine lv_aload_n hx hb d_Mo_find_8 rfl (lv_at hl 1 rfl) ?_
        refine gw_get M hK hI hO i_Mo rfl 2 (by decide) f_Mo_13 rfl (Pv := fun v => v = .ref (q 2)) (fun x hx => ⟨_, _, hx, rfl, rfl⟩) d_Mo_find_9 (fun v hv => ?_)
        subst hv
        refine lv_iload_n hx hb d_Mo_find_12 rfl (lv_at hl 0 rfl) ?_
        refine gw_zald M hK hI (hA.2 2 rfl : _ = some (kA D 2 16 tZ)) (nb_in hk hlt) d_Mo_find_13 (fun x1 h_x1 => ?_)
        refine lv_if_eq (tgt := 29) hx hb d_Mo_find_14 (by decide) (fun c_14 => ?_) (fun q9 => absurd h_x1 q9)
        obtain ⟨x2, e_x2⟩ : ∃ ww9 : Int32, ww9 = y2 + 1 := ⟨_, rfl⟩
        refine lv_iinc (v := x2) (lv' := [(2, .int x2), (0, .ref o), (1, .int n1)]) hx hb d_Mo_find_29 hl (k := 0) rfl (by rw [e_x2]; rfl) (by decide) rfl (fun ls hl => ?_)
        refine lv_goto (tgt := 2) hx hb d_Mo_find_32 (by decide) ?_
        exact ih_2 (k + 1) x2 _ _ _ hlt (nb_s e_x2 hk) (z_m hm_2 hlt) hI (lv_sub hl [0, 1, 2] rfl)
  exact L_2 _ 0 0 _ _ _ (Nat.zero_le _) rfl (Nat.lt_succ_self _) hI (lv_sub hl [0, 1, 2] rfl)

abbrev rm_Mo_drop : Room := { frames := 1, cells := 0, slots := 0, locals := 22 }
set_option maxHeartbeats 4000000 in
set_option maxRecDepth 100000 in
theorem c_Mo_drop (l : Launch) {D : gw_D} {Hs : Heap} {G : gw_G} (n1 : Int32) (o : Nat) (q : Nat → Nat) (t0 f0 l0 g0 : Int32) (hO : G o = some (kx (mo_ob q t0 f0 l0 g0))) (hA : mo_ok D tZ q G) : Met l y_Mo_drop (Cond.code y_Mo_drop b_Mo_drop 3 (some .boolean) :: tb) rm_Mo_drop (gw_Pc D Hs G [.ref o, .int n1]) (gw_Qi D Hs (fun r G1 => r = 0 ∧ G1 = gw_up G o (kx (mo_ob q 0 f0 l0 g0)))) 0 0 (gw_A Hs) := by
  refine gw_met (by decide) (Nat.le_of_ble_eq_true rfl) ?_
  intro p e s m args below meth c M hK hr hlo hin hI ls hl
  have hx := M.1
  have hb := M.2.1
  have hl : lv_has ls 3 [(0, .ref o), (1, .int n1)] := hl
  refine lv_aload_n hx hb d_Mo_drop_0 rfl (lv_at hl 0 rfl) ?_
  refine lv_iconst (v := 0) hx hb d_Mo_drop_1 (by decide) ?_
  refine gw_put M hK hI hO i_Mo t_Mo tk_Mo n_Mo rfl 0 (by decide) f_Mo_94 rfl rfl rfl (kx (mo_ob q 0 f0 l0 g0)) (fun x hx => ⟨_, hx, Nat.le_of_ble_eq_true rfl, rfl⟩) d_Mo_drop_2 (fun H locs hI => ?_)
  obtain ⟨G1, hE_G1⟩ : ∃ z9, gw_up G o (kx (mo_ob q 0 f0 l0 g0)) = z9 := ⟨_, rfl⟩
  rw [hE_G1] at hI
  have hG3 : G1 o = some (kx (mo_ob q 0 f0 l0 g0)) := by rw [← hE_G1]; exact gw_up_s
  have hs2 : gw_fr (fun b => b = o) G G1 := by rw [← hE_G1]; exact gw_fr.up rfl
  have hA := hA.fr hO hs2
  refine lv_aload_n hx hb d_Mo_drop_5 rfl (lv_at hl 0 rfl) ?_
  refine lv_iload_n hx hb d_Mo_drop_6 rfl (lv_at hl 1 rfl) ?_
  refine gw_Vi (As := [.int n1]) (rest := []) M hK hI (c_Mo_find l n1 o q 0 f0 l0 g0 hG3 hA) k_Mo_find m_Mo_135 hG3 (ci := 6) rfl (fun x hx => ⟨_, hx⟩) rfl hl.1 rfl (Nat.le_of_ble_eq_true rfl) ⟨rfl, rfl, ⟨Nat.le_of_ble_eq_true rfl, Nat.le_of_ble_eq_true rfl⟩, ⟨Nat.le_of_ble_eq_true rfl, Nat.le_of_ble_eq_true rfl⟩⟩ d_Mo_drop_7 (fun x4 G9 H locs hw hI => ?_)
  obtain ⟨h_x4, hw⟩ := hw
  rw [hw] at hI
  subst h_x4
  refine lv_istore_n (lv' := [(2, .int (-1)), (0, .ref o), (1, .int n1)]) hx hb d_Mo_drop_10 rfl hl (by decide) rfl (fun ls hl => ?_)
  refine lv_iload_n hx hb d_Mo_drop_11 rfl (lv_at hl 0 rfl) ?_
  refine lv_if_lt (tgt := 22) hx hb d_Mo_drop_12 (by decide) (fun c_12 => ?_) (fun q9 => absurd (by decide) q9)
  refine lv_iload_n hx hb d_Mo_drop_22 rfl (lv_at hl 0 rfl) ?_
  refine lv_if_lt (tgt := 30) hx hb d_Mo_drop_23 (by decide) (fun c_23 => ?_) (fun q9 => absurd (by decide) q9)
  refine lv_iconst (v := 0) hx hb d_Mo_drop_30 (by decide) ?_
  exact gw_zret M hr rfl hlo hI d_Mo_drop_31 (⟨rfl, (by first | rfl | exact hE_G1.symm | (rw [← hE_G1]; simp only [gw_up_up]) | (simp only [← hE_G1, gw_up_up]))⟩)

abbrev rm_Mo_hurry : Room := { frames := 1, cells := 0, slots := 0, locals := 22 }
set_option maxHeartbeats 4000000 in
set_option maxRecDepth 100000 in
theorem c_Mo_hurry (l : Launch) {D : gw_D} {Hs : Heap} {G : gw_G} (n1 : Int32) (n2 : Int64) (o : Nat) (q : Nat → Nat) (t0 f0 l0 g0 : Int32) (hO : G o = some (kx (mo_ob q t0 f0 l0 g0))) (hA : mo_ok D tZ q G) : Met l y_Mo_hurry (Cond.code y_Mo_hurry b_Mo_hurry 5 none :: tb) rm_Mo_hurry (gw_Pc D Hs G [.ref o, .int n1, .long n2]) (gw_Qv D Hs (fun G1 => G1 = gw_up G o (kx (mo_ob q 1 f0 l0 g0)))) 0 0 (gw_A Hs) := by
  refine gw_met (by decide) (Nat.le_of_ble_eq_true rfl) ?_
  intro p e s m args below meth c M hK hr hlo hin hI ls hl
  have hx := M.1
  have hb := M.2.1
  have hl : lv_has ls 5 [(0, .ref o), (1, .int n1), (2, .long n2)] := hl
  refine lv_aload_n hx hb d_Mo_hurry_0 rfl (lv_at hl 0 rfl) ?_
  refine lv_iload_n hx hb d_Mo_hurry_1 rfl (lv_at hl 1 rfl) ?_
  refine gw_Vi (As := [.int n1]) (rest := []) M hK hI (c_Mo_find l n1 o q t0 f0 l0 g0 hO hA) k_Mo_find m_Mo_135 hO (ci := 6) rfl (fun x hx => ⟨_, hx⟩) rfl hl.1 rfl (Nat.le_of_ble_eq_true rfl) ⟨rfl, rfl, ⟨Nat.le_of_ble_eq_true rfl, Nat.le_of_ble_eq_true rfl⟩, ⟨Nat.le_of_ble_eq_true rfl, Nat.le_of_ble_eq_true rfl⟩⟩ d_Mo_hurry_2 (fun x1 G9 H locs hw hI => ?_)
  obtain ⟨h_x1, hw⟩ := hw
  rw [hw] at hI
  subst h_x1
  refine lv_istore (lv' := [(4, .int (-1)), (0, .ref o), (1, .int n1), (2, .long n2)]) hx hb d_Mo_hurry_5 hl (by decide) rfl (fun ls hl => ?_)
  refine lv_aload_n hx hb d_Mo_hurry_7 rfl (lv_at hl 1 rfl) ?_
  refine lv_iload hx hb d_Mo_hurry_8 (lv_at hl 0 rfl) ?_
  refine lv_if_ge (tgt := 17) hx hb d_Mo_hurry_10 (by decide) (fun q9 => absurd q9 (by decide)) (fun c_10 => ?_)
  refine lv_iconst (v := 1) hx hb d_Mo_hurry_13 (by decide) ?_
  refine lv_goto (tgt := 45) hx hb d_Mo_hurry_14 (by decide) ?_
  refine gw_put M hK hI hO i_Mo t_Mo tk_Mo n_Mo rfl 0 (by decide) f_Mo_94 rfl rfl rfl (kx (mo_ob q 1 f0 l0 g0)) (fun x hx => ⟨_, hx, Nat.le_of_ble_eq_true rfl, rfl⟩) d_Mo_hurry_45 (fun H locs hI => ?_)
  obtain ⟨G2, hE_G2⟩ : ∃ z9, gw_up G o (kx (mo_ob q 1 f0 l0 g0)) = z9 := ⟨_, rfl⟩
  rw [hE_G2] at hI
  have hG4 : G2 o = some (kx (mo_ob q 1 f0 l0 g0)) := by rw [← hE_G2]; exact gw_up_s
  have hs3 : gw_fr (fun b => b = o) G G2 := by rw [← hE_G2]; exact gw_fr.up rfl
  have hA := hA.fr hO hs3
  refine lv_aload_n hx hb d_Mo_hurry_48 rfl (lv_at hl 1 rfl) ?_
  refine gw_get M hK hI hG4 i_Mo rfl 0 (by decide) f_Mo_94 rfl (Pv := fun v => v = .int 1) (fun x hx => ⟨_, _, hx, rfl, rfl⟩) d_Mo_hurry_49 (fun v hv => ?_)
  subst hv
  refine lv_if_ne (tgt := 63) hx hb d_Mo_hurry_52 (by decide) (fun c_52 => ?_) (fun q9 => absurd q9 (by decide))
  exact gw_vret M hr hlo hI d_Mo_hurry_63 (by first | rfl | exact hE_G2.symm | (rw [← hE_G2]; simp only [gw_up_up]) | (simp only [← hE_G2, gw_up_up]))

abbrev rm_Mo_life : Room := { frames := 1, cells := 0, slots := 0, locals := 22 }
set_option maxHeartbeats 4000000 in
set_option maxRecDepth 100000 in
theorem c_Mo_life (l : Launch) {D : gw_D} {Hs : Heap} {G : gw_G} (n1 n2 : Int32) (o : Nat) (q : Nat → Nat) (t0 f0 l0 g0 : Int32) (hO : G o = some (kx (mo_ob q t0 f0 l0 g0))) (hA : mo_ok D tZ q G) : Met l y_Mo_life (Cond.code y_Mo_life b_Mo_life 5 (some .int) :: tb) rm_Mo_life (gw_Pc D Hs G [.ref o, .int n1, .int n2]) (gw_Qi D Hs (fun r G1 => G1 = gw_up G o (kx (mo_ob q 1 f0 l0 g0)))) 0 0 (gw_A Hs) := by
  refine gw_met (by decide) (Nat.le_of_ble_eq_true rfl) ?_
  intro p e s m args below meth c M hK hr hlo hin hI ls hl
  have hx := M.1
  have hb := M.2.1
  have hl : lv_has ls 5 [(0, .ref o), (1, .int n1), (2, .int n2)] := hl
  refine lv_aload_n hx hb d_Mo_life_0 rfl (lv_at hl 0 rfl) ?_
  refine lv_iload_n hx hb d_Mo_life_1 rfl (lv_at hl 1 rfl) ?_
  refine gw_Vi (As := [.int n1]) (rest := []) M hK hI (c_Mo_find l n1 o q t0 f0 l0 g0 hO hA) k_Mo_find m_Mo_135 hO (ci := 6) rfl (fun x hx => ⟨_, hx⟩) rfl hl.1 rfl (Nat.le_of_ble_eq_true rfl) ⟨rfl, rfl, ⟨Nat.le_of_ble_eq_true rfl, Nat.le_of_ble_eq_true rfl⟩, ⟨Nat.le_of_ble_eq_true rfl, Nat.le_of_ble_eq_true rfl⟩⟩ d_Mo_life_2 (fun x1 G9 H locs hw hI => ?_)
  obtain ⟨h_x1, hw⟩ := hw
  rw [hw] at hI
  subst h_x1
  refine lv_istore_n (lv' := [(3, .int (-1)), (0, .ref o), (1, .int n1), (2, .int n2)]) hx hb d_Mo_life_5 rfl hl (by decide) rfl (fun ls hl => ?_)
  refine lv_aload_n hx hb d_Mo_life_6 rfl (lv_at hl 1 rfl) ?_
  refine lv_iload_n hx hb d_Mo_life_7 rfl (lv_at hl 0 rfl) ?_
  refine lv_if_ge (tgt := 15) hx hb d_Mo_life_8 (by decide) (fun q9 => absurd q9 (by decide)) (fun c_8 => ?_)
  refine lv_iconst (v := 1) hx hb d_Mo_life_11 (by decide) ?_
  refine lv_goto (tgt := 24) hx hb d_Mo_life_12 (by decide) ?_
  refine gw_put M hK hI hO i_Mo t_Mo tk_Mo n_Mo rfl 0 (by decide) f_Mo_94 rfl rfl rfl (kx (mo_ob q 1 f0 l0 g0)) (fun x hx => ⟨_, hx, Nat.le_of_ble_eq_true rfl, rfl⟩) d_Mo_life_24 (fun H locs hI => ?_)
  obtain ⟨G2, hE_G2⟩ : ∃ z9, gw_up G o (kx (mo_ob q 1 f0 l0 g0)) = z9 := ⟨_, rfl⟩
  rw [hE_G2] at hI
  have hG4 : G2 o = some (kx (mo_ob q 1 f0 l0 g0)) := by rw [← hE_G2]; exact gw_up_s
  have hs3 : gw_fr (fun b => b = o) G G2 := by rw [← hE_G2]; exact gw_fr.up rfl
  have hA := hA.fr hO hs3
  refine lv_aload_n hx hb d_Mo_life_27 rfl (lv_at hl 1 rfl) ?_
  refine gw_get M hK hI hG4 i_Mo rfl 0 (by decide) f_Mo_94 rfl (Pv := fun v => v = .int 1) (fun x hx => ⟨_, _, hx, rfl, rfl⟩) d_Mo_life_28 (fun v hv => ?_)
  subst hv
  refine lv_if_le (tgt := 36) hx hb d_Mo_life_31 (by decide) (fun q9 => absurd q9 (by decide)) (fun c_31 => ?_)
  refine lv_iconst (v := 0) hx hb d_Mo_life_34 (by decide) ?_
  exact gw_iret M hr hlo hI d_Mo_life_35 (by first | rfl | exact hE_G2.symm | (rw [← hE_G2]; simp only [gw_up_up]) | (simp only [← hE_G2, gw_up_up]))

abbrev rm_Mo_seal : Room := { frames := 1, cells := 0, slots := 0, locals := 22 }
set_option maxHeartbeats 4000000 in
set_option maxRecDepth 100000 in
theorem c_Mo_seal (l : Launch) {D : gw_D} {Hs : Heap} {G : gw_G} (n1 n2 : Int32) (o : Nat) (q : Nat → Nat) (t0 f0 l0 g0 : Int32) (hO : G o = some (kx (mo_ob q t0 f0 l0 g0))) (hA : mo_ok D tZ q G) : Met l y_Mo_seal (Cond.code y_Mo_seal b_Mo_seal 7 (some .int) :: tb) rm_Mo_seal (gw_Pc D Hs G [.ref o, .int n1, .int n2]) (gw_Qi D Hs (fun r G1 => G1 = gw_up G o (kx (mo_ob q 1 f0 l0 g0)))) 0 0 (gw_A Hs) := by
  refine gw_met (by decide) (Nat.le_of_ble_eq_true rfl) ?_
  intro p e s m args below meth c M hK hr hlo hin hI ls hl
  have hx := M.1
  have hb := M.2.1
  have hl : lv_has ls 7 [(0, .ref o), (1, .int n1), (2, .int n2)] := hl
  refine lv_aload_n hx hb d_Mo_seal_0 rfl (lv_at hl 0 rfl) ?_
  refine lv_iload_n hx hb d_Mo_seal_1 rfl (lv_at hl 1 rfl) ?_
  refine gw_Vi (As := [.int n1]) (rest := []) M hK hI (c_Mo_find l n1 o q t0 f0 l0 g0 hO hA) k_Mo_find m_Mo_135 hO (ci := 6) rfl (fun x hx => ⟨_, hx⟩) rfl hl.1 rfl (Nat.le_of_ble_eq_true rfl) ⟨rfl, rfl, ⟨Nat.le_of_ble_eq_true rfl, Nat.le_of_ble_eq_true rfl⟩, ⟨Nat.le_of_ble_eq_true rfl, Nat.le_of_ble_eq_true rfl⟩⟩ d_Mo_seal_2 (fun x1 G9 H locs hw hI => ?_)
  obtain ⟨h_x1, hw⟩ := hw
  rw [hw] at hI
  subst h_x1
  refine lv_istore_n (lv' := [(3, .int (-1)), (0, .ref o), (1, .int n1), (2, .int n2)]) hx hb d_Mo_seal_5 rfl hl (by decide) rfl (fun ls hl => ?_)
  refine lv_aload_n hx hb d_Mo_seal_6 rfl (lv_at hl 1 rfl) ?_
  refine lv_iload_n hx hb d_Mo_seal_7 rfl (lv_at hl 0 rfl) ?_
  refine lv_if_ge (tgt := 15) hx hb d_Mo_seal_8 (by decide) (fun q9 => absurd q9 (by decide)) (fun c_8 => ?_)
  refine lv_iconst (v := 1) hx hb d_Mo_seal_11 (by decide) ?_
  refine lv_goto (tgt := 31) hx hb d_Mo_seal_12 (by decide) ?_
  refine gw_put M hK hI hO i_Mo t_Mo tk_Mo n_Mo rfl 0 (by decide) f_Mo_94 rfl rfl rfl (kx (mo_ob q 1 f0 l0 g0)) (fun x hx => ⟨_, hx, Nat.le_of_ble_eq_true rfl, rfl⟩) d_Mo_seal_31 (fun H locs hI => ?_)
  obtain ⟨G2, hE_G2⟩ : ∃ z9, gw_up G o (kx (mo_ob q 1 f0 l0 g0)) = z9 := ⟨_, rfl⟩
  rw [hE_G2] at hI
  have hG4 : G2 o = some (kx (mo_ob q 1 f0 l0 g0)) := by rw [← hE_G2]; exact gw_up_s
  have hs3 : gw_fr (fun b => b = o) G G2 := by rw [← hE_G2]; exact gw_fr.up rfl
  have hA := hA.fr hO hs3
  refine lv_aload_n hx hb d_Mo_seal_34 rfl (lv_at hl 1 rfl) ?_
  refine gw_get M hK hI hG4 i_Mo rfl 0 (by decide) f_Mo_94 rfl (Pv := fun v => v = .int 1) (fun x hx => ⟨_, _, hx, rfl, rfl⟩) d_Mo_seal_35 (fun v hv => ?_)
  subst hv
  refine lv_if_le (tgt := 43) hx hb d_Mo_seal_38 (by decide) (fun q9 => absurd q9 (by decide)) (fun c_38 => ?_)
  refine lv_iconst (v := 0) hx hb d_Mo_seal_41 (by decide) ?_
  exact gw_iret M hr hlo hI d_Mo_seal_42 (by first | rfl | exact hE_G2.symm | (rw [← hE_G2]; simp only [gw_up_up]) | (simp only [← hE_G2, gw_up_up]))

abbrev rm_Mo_told : Room := { frames := 1, cells := 0, slots := 0, locals := 22 }
set_option maxHeartbeats 4000000 in
set_option maxRecDepth 100000 in
theorem c_Mo_told (l : Launch) {D : gw_D} {Hs : Heap} {G : gw_G} (n1 n2 : Int32) (o : Nat) (q : Nat → Nat) (t0 f0 l0 g0 : Int32) (hO : G o = some (kx (mo_ob q t0 f0 l0 g0))) (hA : mo_ok D tZ q G) : Met l y_Mo_told (Cond.code y_Mo_told b_Mo_told 4 (some .long) :: tb) rm_Mo_told (gw_Pc D Hs G [.ref o, .int n1, .int n2]) (gw_Ql D Hs (fun r G1 => G1 = gw_up G o (kx (mo_ob q 1 f0 l0 g0)))) 0 0 (gw_A Hs) := by
  refine gw_met (by decide) (Nat.le_of_ble_eq_true rfl) ?_
  intro p e s m args below meth c M hK hr hlo hin hI ls hl
  have hx := M.1
  have hb := M.2.1
  have hl : lv_has ls 4 [(0, .ref o), (1, .int n1), (2, .int n2)] := hl
  refine lv_aload_n hx hb d_Mo_told_0 rfl (lv_at hl 0 rfl) ?_
  refine lv_iload_n hx hb d_Mo_told_1 rfl (lv_at hl 1 rfl) ?_
  refine gw_Vi (As := [.int n1]) (rest := []) M hK hI (c_Mo_find l n1 o q t0 f0 l0 g0 hO hA) k_Mo_find m_Mo_135 hO (ci := 6) rfl (fun x hx => ⟨_, hx⟩) rfl hl.1 rfl (Nat.le_of_ble_eq_true rfl) ⟨rfl, rfl, ⟨Nat.le_of_ble_eq_true rfl, Nat.le_of_ble_eq_true rfl⟩, ⟨Nat.le_of_ble_eq_true rfl, Nat.le_of_ble_eq_true rfl⟩⟩ d_Mo_told_2 (fun x1 G9 H locs hw hI => ?_)
  obtain ⟨h_x1, hw⟩ := hw
  rw [hw] at hI
  subst h_x1
  refine lv_istore_n (lv' := [(3, .int (-1)), (0, .ref o), (1, .int n1), (2, .int n2)]) hx hb d_Mo_told_5 rfl hl (by decide) rfl (fun ls hl => ?_)
  refine lv_aload_n hx hb d_Mo_told_6 rfl (lv_at hl 1 rfl) ?_
  refine lv_iload_n hx hb d_Mo_told_7 rfl (lv_at hl 0 rfl) ?_
  refine lv_if_ge (tgt := 15) hx hb d_Mo_told_8 (by decide) (fun q9 => absurd q9 (by decide)) (fun c_8 => ?_)
  refine lv_iconst (v := 1) hx hb d_Mo_told_11 (by decide) ?_
  refine lv_goto (tgt := 30) hx hb d_Mo_told_12 (by decide) ?_
  refine gw_put M hK hI hO i_Mo t_Mo tk_Mo n_Mo rfl 0 (by decide) f_Mo_94 rfl rfl rfl (kx (mo_ob q 1 f0 l0 g0)) (fun x hx => ⟨_, hx, Nat.le_of_ble_eq_true rfl, rfl⟩) d_Mo_told_30 (fun H locs hI => ?_)
  obtain ⟨G2, hE_G2⟩ : ∃ z9, gw_up G o (kx (mo_ob q 1 f0 l0 g0)) = z9 := ⟨_, rfl⟩
  rw [hE_G2] at hI
  have hG4 : G2 o = some (kx (mo_ob q 1 f0 l0 g0)) := by rw [← hE_G2]; exact gw_up_s
  have hs3 : gw_fr (fun b => b = o) G G2 := by rw [← hE_G2]; exact gw_fr.up rfl
  have hA := hA.fr hO hs3
  refine lv_aload_n hx hb d_Mo_told_33 rfl (lv_at hl 1 rfl) ?_
  refine gw_get M hK hI hG4 i_Mo rfl 0 (by decide) f_Mo_94 rfl (Pv := fun v => v = .int 1) (fun x hx => ⟨_, _, hx, rfl, rfl⟩) d_Mo_told_34 (fun v hv => ?_)
  subst hv
  refine lv_if_le (tgt := 42) hx hb d_Mo_told_37 (by decide) (fun q9 => absurd q9 (by decide)) (fun c_37 => ?_)
  refine lv_lconst (v := 0) hx hb d_Mo_told_40 (by decide) ?_
  exact gw_lret M hr hlo hI d_Mo_told_41 (by first | rfl | exact hE_G2.symm | (rw [← hE_G2]; simp only [gw_up_up]) | (simp only [← hE_G2, gw_up_up]))

abbrev rm_Mo_given : Room := { frames := 1, cells := 0, slots := 0, locals := 22 }
set_option maxHeartbeats 4000000 in
set_option maxRecDepth 100000 in
theorem c_Mo_given (l : Launch) {D : gw_D} {Hs : Heap} {G : gw_G} (n1 n2 : Int32) (o : Nat) (q : Nat → Nat) (t0 f0 l0 g0 : Int32) (hO : G o = some (kx (mo_ob q t0 f0 l0 g0))) (hA : mo_ok D tZ q G) : Met l y_Mo_given (Cond.code y_Mo_given b_Mo_given 9 (some .long) :: tb) rm_Mo_given (gw_Pc D Hs G [.ref o, .int n1, .int n2]) (gw_Ql D Hs (fun r G1 => G1 = gw_up G o (kx (mo_ob q 1 f0 l0 g0)))) 0 0 (gw_A Hs) := by
  refine gw_met (by decide) (Nat.le_of_ble_eq_true rfl) ?_
  intro p e s m args below meth c M hK hr hlo hin hI ls hl
  have hx := M.1
  have hb := M.2.1
  have hl : lv_has ls 9 [(0, .ref o), (1, .int n1), (2, .int n2)] := hl
  refine lv_aload_n hx hb d_Mo_given_0 rfl (lv_at hl 0 rfl) ?_
  refine lv_iload_n hx hb d_Mo_given_1 rfl (lv_at hl 1 rfl) ?_
  refine gw_Vi (As := [.int n1]) (rest := []) M hK hI (c_Mo_find l n1 o q t0 f0 l0 g0 hO hA) k_Mo_find m_Mo_135 hO (ci := 6) rfl (fun x hx => ⟨_, hx⟩) rfl hl.1 rfl (Nat.le_of_ble_eq_true rfl) ⟨rfl, rfl, ⟨Nat.le_of_ble_eq_true rfl, Nat.le_of_ble_eq_true rfl⟩, ⟨Nat.le_of_ble_eq_true rfl, Nat.le_of_ble_eq_true rfl⟩⟩ d_Mo_given_2 (fun x1 G9 H locs hw hI => ?_)
  obtain ⟨h_x1, hw⟩ := hw
  rw [hw] at hI
  subst h_x1
  refine lv_istore_n (lv' := [(3, .int (-1)), (0, .ref o), (1, .int n1), (2, .int n2)]) hx hb d_Mo_given_5 rfl hl (by decide) rfl (fun ls hl => ?_)
  refine lv_aload_n hx hb d_Mo_given_6 rfl (lv_at hl 1 rfl) ?_
  refine lv_iload_n hx hb d_Mo_given_7 rfl (lv_at hl 0 rfl) ?_
  refine lv_if_ge (tgt := 15) hx hb d_Mo_given_8 (by decide) (fun q9 => absurd q9 (by decide)) (fun c_8 => ?_)
  refine lv_iconst (v := 1) hx hb d_Mo_given_11 (by decide) ?_
  refine lv_goto (tgt := 24) hx hb d_Mo_given_12 (by decide) ?_
  refine gw_put M hK hI hO i_Mo t_Mo tk_Mo n_Mo rfl 0 (by decide) f_Mo_94 rfl rfl rfl (kx (mo_ob q 1 f0 l0 g0)) (fun x hx => ⟨_, hx, Nat.le_of_ble_eq_true rfl, rfl⟩) d_Mo_given_24 (fun H locs hI => ?_)
  obtain ⟨G2, hE_G2⟩ : ∃ z9, gw_up G o (kx (mo_ob q 1 f0 l0 g0)) = z9 := ⟨_, rfl⟩
  rw [hE_G2] at hI
  have hG4 : G2 o = some (kx (mo_ob q 1 f0 l0 g0)) := by rw [← hE_G2]; exact gw_up_s
  have hs3 : gw_fr (fun b => b = o) G G2 := by rw [← hE_G2]; exact gw_fr.up rfl
  have hA := hA.fr hO hs3
  refine lv_lconst (v := 0) hx hb d_Mo_given_27 (by decide) ?_
  refine lv_lstore (lv' := [(4, .long 0), (3, .int (-1)), (0, .ref o), (1, .int n1), (2, .int n2)]) hx hb d_Mo_given_28 hl (by decide) rfl (fun ls hl => ?_)
  refine lv_iconst (v := 0) hx hb d_Mo_given_30 (by decide) ?_
  refine lv_istore (lv' := [(6, .int 0), (4, .long 0), (3, .int (-1)), (0, .ref o), (1, .int n1), (2, .int n2)]) hx hb d_Mo_given_31 hl (by decide) rfl (fun ls hl => ?_)
  refine lv_iload hx hb d_Mo_given_33 (lv_at hl 0 rfl) ?_
  refine lv_bipush (v := 64) hx hb d_Mo_given_35 (by decide) ?_
  refine lv_icmp_ge (tgt := 100) hx hb d_Mo_given_37 (by decide) (fun q9 => absurd q9 (by decide)) (fun c_37 => ?_)
  refine lv_aload_n hx hb d_Mo_given_40 rfl (lv_at hl 3 rfl) ?_
  refine gw_get M hK hI hG4 i_Mo rfl 0 (by decide) f_Mo_94 rfl (Pv := fun v => v = .int 1) (fun x hx => ⟨_, _, hx, rfl, rfl⟩) d_Mo_given_41 (fun v hv => ?_)
  subst hv
  refine lv_if_ne (tgt := 100) hx hb d_Mo_given_44 (by decide) (fun c_44 => ?_) (fun q9 => absurd q9 (by decide))
  refine lv_lload hx hb d_Mo_given_100 (lv_at hl 1 rfl) ?_
  exact gw_lret M hr hlo hI d_Mo_given_102 (by first | rfl | exact hE_G2.symm | (rw [← hE_G2]; simp only [gw_up_up]) | (simp only [← hE_G2, gw_up_up]))

abbrev rm_Mo_size : Room := { frames := 0, cells := 0, slots := 0, locals := 0 }
set_option maxHeartbeats 4000000 in
set_option maxRecDepth 100000 in
theorem c_Mo_size (l : Launch) {D : gw_D} {Hs : Heap} {G : gw_G}  (o : Nat) (q : Nat → Nat) (t0 f0 l0 g0 : Int32) (hO : G o = some (kx (mo_ob q t0 f0 l0 g0))) (hA : mo_ok D tZ q G) : Met l y_Mo_size (Cond.code y_Mo_size b_Mo_size 1 (some .int) :: tb) rm_Mo_size (gw_Pc D Hs G [.ref o]) (gw_Qi D Hs (fun r G1 => r = l0 ∧ G1 = gw_up G o (kx (mo_ob q 0 f0 l0 g0)))) 0 0 (gw_A Hs) := by
  refine gw_met (by decide) (Nat.le_of_ble_eq_true rfl) ?_
  intro p e s m args below meth c M hK hr hlo hin hI ls hl
  have hx := M.1
  have hb := M.2.1
  have hl : lv_has ls 1 [(0, .ref o)] := hl
  refine lv_aload_n hx hb d_Mo_size_0 rfl (lv_at hl 0 rfl) ?_
  refine lv_iconst (v := 0) hx hb d_Mo_size_1 (by decide) ?_
  refine gw_put M hK hI hO i_Mo t_Mo tk_Mo n_Mo rfl 0 (by decide) f_Mo_94 rfl rfl rfl (kx (mo_ob q 0 f0 l0 g0)) (fun x hx => ⟨_, hx, Nat.le_of_ble_eq_true rfl, rfl⟩) d_Mo_size_2 (fun H locs hI => ?_)
  obtain ⟨G1, hE_G1⟩ : ∃ z9, gw_up G o (kx (mo_ob q 0 f0 l0 g0)) = z9 := ⟨_, rfl⟩
  rw [hE_G1] at hI
  have hG3 : G1 o = some (kx (mo_ob q 0 f0 l0 g0)) := by rw [← hE_G1]; exact gw_up_s
  have hs2 : gw_fr (fun b => b = o) G G1 := by rw [← hE_G1]; exact gw_fr.up rfl
  have hA := hA.fr hO hs2
  refine lv_aload_n hx hb d_Mo_size_5 rfl (lv_at hl 0 rfl) ?_
  refine gw_get M hK hI hG3 i_Mo rfl 19 (by decide) f_Mo_151 rfl (Pv := fun v => v = .int l0) (fun x hx => ⟨_, _, hx, rfl, rfl⟩) d_Mo_size_6 (fun v hv => ?_)
  subst hv
  exact gw_iret M hr hlo hI d_Mo_size_9 (⟨rfl, (by first | rfl | exact hE_G1.symm | (rw [← hE_G1]; simp only [gw_up_up]) | (simp only [← hE_G1, gw_up_up]))⟩)

abbrev rm_Mo_got : Room := { frames := 0, cells := 0, slots := 0, locals := 0 }
set_option maxHeartbeats 4000000 in
set_option maxRecDepth 100000 in
theorem c_Mo_got (l : Launch) {D : gw_D} {Hs : Heap} {G : gw_G}  (o : Nat) (q : Nat → Nat) (t0 f0 l0 g0 : Int32) (hO : G o = some (kx (mo_ob q t0 f0 l0 g0))) (hA : mo_ok D tZ q G) : Met l y_Mo_got (Cond.code y_Mo_got b_Mo_got 1 (some .int) :: tb) rm_Mo_got (gw_Pc D Hs G [.ref o]) (gw_Qi D Hs (fun r G1 => r = g0 ∧ G1 = gw_up G o (kx (mo_ob q 0 f0 l0 g0)))) 0 0 (gw_A Hs) := by
  refine gw_met (by decide) (Nat.le_of_ble_eq_true rfl) ?_
  intro p e s m args below meth c M hK hr hlo hin hI ls hl
  have hx := M.1
  have hb := M.2.1
  have hl : lv_has ls 1 [(0, .ref o)] := hl
  refine lv_aload_n hx hb d_Mo_got_0 rfl (lv_at hl 0 rfl) ?_
  refine lv_iconst (v := 0) hx hb d_Mo_got_1 (by decide) ?_
  refine gw_put M hK hI hO i_Mo t_Mo tk_Mo n_Mo rfl 0 (by decide) f_Mo_94 rfl rfl rfl (kx (mo_ob q 0 f0 l0 g0)) (fun x hx => ⟨_, hx, Nat.le_of_ble_eq_true rfl, rfl⟩) d_Mo_got_2 (fun H locs hI => ?_)
  obtain ⟨G1, hE_G1⟩ : ∃ z9, gw_up G o (kx (mo_ob q 0 f0 l0 g0)) = z9 := ⟨_, rfl⟩
  rw [hE_G1] at hI
  have hG3 : G1 o = some (kx (mo_ob q 0 f0 l0 g0)) := by rw [← hE_G1]; exact gw_up_s
  have hs2 : gw_fr (fun b => b = o) G G1 := by rw [← hE_G1]; exact gw_fr.up rfl
  have hA := hA.fr hO hs2
  refine lv_aload_n hx hb d_Mo_got_5 rfl (lv_at hl 0 rfl) ?_
  refine gw_get M hK hI hG3 i_Mo rfl 23 (by decide) f_Mo_168 rfl (Pv := fun v => v = .int g0) (fun x hx => ⟨_, _, hx, rfl, rfl⟩) d_Mo_got_6 (fun v hv => ?_)
  subst hv
  exact gw_iret M hr hlo hI d_Mo_got_9 (⟨rfl, (by first | rfl | exact hE_G1.symm | (rw [← hE_G1]; simp only [gw_up_up]) | (simp only [← hE_G1, gw_up_up]))⟩)

abbrev rm_Mo_wipe : Room := { frames := 0, cells := 0, slots := 0, locals := 0 }
set_option maxHeartbeats 4000000 in
set_option maxRecDepth 100000 in
theorem c_Mo_wipe (l : Launch) {D : gw_D} {Hs : Heap} {G : gw_G}  (o : Nat) (q : Nat → Nat) (t0 f0 l0 g0 : Int32) (hO : G o = some (kx (mo_ob q t0 f0 l0 g0))) (hA : mo_ok D tZ q G) : Met l y_Mo_wipe (Cond.code y_Mo_wipe b_Mo_wipe 2 (some .int) :: tb) rm_Mo_wipe (gw_Pc D Hs G [.ref o]) (gw_Qi D Hs (fun r G1 => r = f0 ∧ G1 = gw_up G o (kx (mo_ob q 0 0 l0 g0)))) 0 0 (gw_A Hs) := by
  refine gw_met (by decide) (Nat.le_of_ble_eq_true rfl) ?_
  intro p e s m args below meth c M hK hr hlo hin hI ls hl
  have hx := M.1
  have hb := M.2.1
  have hl : lv_has ls 2 [(0, .ref o)] := hl
  refine lv_aload_n hx hb d_Mo_wipe_0 rfl (lv_at hl 0 rfl) ?_
  refine lv_iconst (v := 0) hx hb d_Mo_wipe_1 (by decide) ?_
  refine gw_put M hK hI hO i_Mo t_Mo tk_Mo n_Mo rfl 0 (by decide) f_Mo_94 rfl rfl rfl (kx (mo_ob q 0 f0 l0 g0)) (fun x hx => ⟨_, hx, Nat.le_of_ble_eq_true rfl, rfl⟩) d_Mo_wipe_2 (fun H locs hI => ?_)
  obtain ⟨G1, hE_G1⟩ : ∃ z9, gw_up G o (kx (mo_ob q 0 f0 l0 g0)) = z9 := ⟨_, rfl⟩
  rw [hE_G1] at hI
  have hG3 : G1 o = some (kx (mo_ob q 0 f0 l0 g0)) := by rw [← hE_G1]; exact gw_up_s
  have hs2 : gw_fr (fun b => b = o) G G1 := by rw [← hE_G1]; exact gw_fr.up rfl
  have hA := hA.fr hO hs2
  refine lv_aload_n hx hb d_Mo_wipe_5 rfl (lv_at hl 0 rfl) ?_
  refine gw_get M hK hI hG3 i_Mo rfl 17 (by decide) f_Mo_148 rfl (Pv := fun v => v = .int f0) (fun x hx => ⟨_, _, hx, rfl, rfl⟩) d_Mo_wipe_6 (fun v hv => ?_)
  subst hv
  refine lv_istore_n (lv' := [(1, .int f0), (0, .ref o)]) hx hb d_Mo_wipe_9 rfl hl (by decide) rfl (fun ls hl => ?_)
  refine lv_aload_n hx hb d_Mo_wipe_10 rfl (lv_at hl 1 rfl) ?_
  refine lv_iconst (v := 0) hx hb d_Mo_wipe_11 (by decide) ?_
  refine gw_put M hK hI hG3 i_Mo t_Mo tk_Mo n_Mo rfl 17 (by decide) f_Mo_148 rfl rfl rfl (kx (mo_ob q 0 0 l0 g0)) (fun x hx => ⟨_, hx, Nat.le_of_ble_eq_true rfl, rfl⟩) d_Mo_wipe_12 (fun H locs hI => ?_)
  obtain ⟨G4, hE_G4⟩ : ∃ z9, gw_up G1 o (kx (mo_ob q 0 0 l0 g0)) = z9 := ⟨_, rfl⟩
  rw [hE_G4] at hI
  have hG6 : G4 o = some (kx (mo_ob q 0 0 l0 g0)) := by rw [← hE_G4]; exact gw_up_s
  have hs5 : gw_fr (fun b => b = o) G1 G4 := by rw [← hE_G4]; exact gw_fr.up rfl
  have hA := hA.fr hG3 hs5
  refine lv_iload_n hx hb d_Mo_wipe_15 rfl (lv_at hl 0 rfl) ?_
  exact gw_iret M hr hlo hI d_Mo_wipe_16 (⟨rfl, (by first | rfl | exact hE_G4.symm | (rw [← hE_G4, ← hE_G1]; simp only [gw_up_up]) | (simp only [← hE_G4, ← hE_G1, gw_up_up]))⟩)

abbrev rm_Mo_open : Room := { frames := 0, cells := 0, slots := 0, locals := 0 }
set_option maxHeartbeats 4000000 in
set_option maxRecDepth 100000 in
theorem c_Mo_open (l : Launch) {D : gw_D} {Hs : Heap} {G : gw_G}  (o : Nat) (q : Nat → Nat) (t0 f0 g0 : Int32) (hO : G o = some (kx (mo_ob q t0 f0 0 g0))) (hA : mo_ok D tZ q G) : Met l y_Mo_open (Cond.code y_Mo_open b_Mo_open 8 (some .int) :: tb) rm_Mo_open (gw_Pc D Hs G [.ref o]) (gw_Qi D Hs (fun r G1 => r = -1 ∧ G1 = gw_up G o (kx (mo_ob q 0 f0 0 g0)))) 0 0 (gw_A Hs) := by
  refine gw_met (by decide) (Nat.le_of_ble_eq_true rfl) ?_
  intro p e s m args below meth c M hK hr hlo hin hI ls hl
  have hx := M.1
  have hb := M.2.1
  have hl : lv_has ls 8 [(0, .ref o)] := hl
  refine lv_aload_n hx hb d_Mo_open_0 rfl (lv_at hl 0 rfl) ?_
  refine lv_iconst (v := 0) hx hb d_Mo_open_1 (by decide) ?_
  refine gw_put M hK hI hO i_Mo t_Mo tk_Mo n_Mo rfl 0 (by decide) f_Mo_94 rfl rfl rfl (kx (mo_ob q 0 f0 0 g0)) (fun x hx => ⟨_, hx, Nat.le_of_ble_eq_true rfl, rfl⟩) d_Mo_open_2 (fun H locs hI => ?_)
  obtain ⟨G1, hE_G1⟩ : ∃ z9, gw_up G o (kx (mo_ob q 0 f0 0 g0)) = z9 := ⟨_, rfl⟩
  rw [hE_G1] at hI
  have hG3 : G1 o = some (kx (mo_ob q 0 f0 0 g0)) := by rw [← hE_G1]; exact gw_up_s
  have hs2 : gw_fr (fun b => b = o) G G1 := by rw [← hE_G1]; exact gw_fr.up rfl
  have hA := hA.fr hO hs2
  refine lv_aload_n hx hb d_Mo_open_5 rfl (lv_at hl 0 rfl) ?_
  refine gw_get M hK hI hG3 i_Mo rfl 19 (by decide) f_Mo_151 rfl (Pv := fun v => v = .int 0) (fun x hx => ⟨_, _, hx, rfl, rfl⟩) d_Mo_open_6 (fun v hv => ?_)
  subst hv
  refine lv_bipush (v := 36) hx hb d_Mo_open_9 (by decide) ?_
  refine lv_icmp_lt (tgt := 23) hx hb d_Mo_open_11 (by decide) (fun c_11 => ?_) (fun q9 => absurd (by decide) q9)
  refine lv_iconst (v := (-1)) hx hb d_Mo_open_23 (by decide) ?_
  exact gw_iret M hr hlo hI d_Mo_open_24 (⟨rfl, (by first | rfl | exact hE_G1.symm | (rw [← hE_G1]; simp only [gw_up_up]) | (simp only [← hE_G1, gw_up_up]))⟩)

abbrev rm_Mo_eight : Room := { frames := 0, cells := 0, slots := 0, locals := 0 }
set_option maxHeartbeats 4000000 in
set_option maxRecDepth 100000 in
theorem c_Mo_eight (l : Launch) {D : gw_D} {Hs : Heap} {G : gw_G} (b n : Nat) (i0 : Int32) (hB : G b = some (kA D 0 240 tT)) : Met l y_Mo_eight (Cond.code y_Mo_eight b_Mo_eight 8 (some .long) :: tb) rm_Mo_eight (gw_Pc D Hs G [.ref b, .int 0, .int i0]) (gw_Ql D Hs (fun r G1 => r = 0 ∧ G1 = G)) 0 0 (gw_A Hs) := by
  refine gw_met (by decide) (Nat.le_of_ble_eq_true rfl) ?_
  intro p e s m args below meth c M hK hr hlo hin hI ls hl
  have hx := M.1
  have hb := M.2.1
  have hl : lv_has ls 8 [(0, .ref b), (1, .int 0), (2, .int i0)] := hl
  refine lv_lconst (v := 0) hx hb d_Mo_eight_0 (by decide) ?_
  refine lv_lstore_n (lv' := [(3, .long 0), (0, .ref b), (1, .int 0), (2, .int i0)]) hx hb d_Mo_eight_1 rfl hl (by decide) rfl (fun ls hl => ?_)
  refine lv_iconst (v := 0) hx hb d_Mo_eight_2 (by decide) ?_
  refine lv_istore (lv' := [(5, .int 0), (3, .long 0), (0, .ref b), (1, .int 0), (2, .int i0)]) hx hb d_Mo_eight_3 hl (by decide) rfl (fun ls hl => ?_)
  have L_5 : ∀ (n9 : Nat) (k : Nat) (y5 : Int32) (H : Heap) (locs : List Loc) (ls : Array Slot), k ≤ 8 → y5 = nI k → 8 - k < n9 → gw_I D Hs G s.heap H locs → lv_has ls 8 [(5, .int y5), (3, .long 0), (0, .ref b), (1, .int 0), (2, .int i0)] → W p l e rm_Mo_eight s m args below meth c H locs 0 0 (MQ below (gw_Ql D Hs (fun r G1 => r = 0 ∧ G1 = G)) args s 0 0 (gw_A Hs)) (F0 m 5 ls []) := by
    intro n9
    induction n9 with
    | zero =>
      intro k y5 H locs ls h8 hk hm hI hl
      exact absurd hm (Nat.not_lt_zero _)
    | succ n9 ih_5 =>
      intro k y5 H locs ls h8 hk hm_5 hI hl
      refine lv_iload hx hb d_Mo_eight_5 (lv_at hl 0 rfl) ?_
      refine lv_bipush (v := 8) hx hb d_Mo_eight_7 (by decide) ?_
      refine lv_icmp_ge (tgt := 60) hx hb d_Mo_eight_9 (by decide) (fun c_9 => ?_) (fun c_9 => ?_)
      · refine lv_lload_n hx hb d_Mo_eight_60 rfl (lv_at hl 1 rfl) ?_
        exact gw_lret M hr hlo hI d_Mo_eight_61 (⟨rfl, rfl⟩)
      · have hlt : k < 8 := nb_lt (n := 8) hk c_9 (by decide) (z_31 h8)
        refine lv_iload_n hx hb d_Mo_eight_12 rfl (lv_at hl 4 rfl) ?_
        refine lv_i2l hx hb d_Mo_eight_13 rfl ?_
        refine lv_iload hx hb d_Mo_eight_14 (lv_at hl 0 rfl) ?_
        refine lv_i2l hx hb d_Mo_eight_16 rfl ?_
        refine lv_ladd hx hb d_Mo_eight_17 ?_
        refine lv_topl (fun x1 e_x1 => ?_)
        refine lv_lstore (lv' := [(6, .long x1), (5, .int y5), (3, .long 0), (0, .ref b), (1, .int 0), (2, .int i0)]) hx hb d_Mo_eight_18 hl (by decide) rfl (fun ls hl => ?_)
        refine lv_lload hx hb d_Mo_eight_20 (lv_at hl 0 rfl) ?_
        refine lv_lconst (v := 0) hx hb d_Mo_eight_22 (by decide) ?_
        refine W.lcmp hx hb d_Mo_eight_23 ?_
        refine lv_if_lt (tgt := 52) hx hb d_Mo_eight_24 (by decide) (fun c_24 => ?_) (fun c_24 => ?_)
        · refine lv_lload_n hx hb d_Mo_eight_52 rfl (lv_at hl 2 rfl) ?_
          refine lv_lstore_n (lv' := [(3, .long 0), (6, .long x1), (5, .int y5), (0, .ref b), (1, .int 0), (2, .int i0)]) hx hb d_Mo_eight_53 rfl hl (by decide) rfl (fun ls hl => ?_)
          obtain ⟨x2, e_x2⟩ : ∃ ww9 : Int32, ww9 = y5 + 1 := ⟨_, rfl⟩
          refine lv_iinc (v := x2) (lv' := [(5, .int x2), (3, .long 0), (6, .long x1), (0, .ref b), (1, .int 0), (2, .int i0)]) hx hb d_Mo_eight_54 hl (k := 2) rfl (by rw [e_x2]; rfl) (by decide) rfl (fun ls hl => ?_)
          refine lv_goto (tgt := 5) hx hb d_Mo_eight_57 (by decide) ?_
          exact ih_5 (k + 1) x2 _ _ _ hlt (nb_s e_x2 hk) (z_m hm_5 hlt) hI (lv_sub hl [0, 1, 3, 4, 5] rfl)
        · refine lv_lload hx hb d_Mo_eight_27 (lv_at hl 0 rfl) ?_
          refine lv_iload_n hx hb d_Mo_eight_29 rfl (lv_at hl 4 rfl) ?_
          refine lv_i2l hx hb d_Mo_eight_30 rfl ?_
          refine W.lcmp hx hb d_Mo_eight_31 ?_
          refine lv_if_ge (tgt := 52) hx hb d_Mo_eight_32 (by decide) (fun c_32 => ?_) (fun q9 => absurd ((lg_cmp_ge _ _).mpr (Int64.not_lt.mp (fun q9 => c_24 ((lg_cmp_lt _ _).mpr q9)))) q9)
          refine lv_lload_n hx hb d_Mo_eight_52 rfl (lv_at hl 2 rfl) ?_
          refine lv_lstore_n (lv' := [(3, .long 0), (6, .long x1), (5, .int y5), (0, .ref b), (1, .int 0), (2, .int i0)]) hx hb d_Mo_eight_53 rfl hl (by decide) rfl (fun ls hl => ?_)
          obtain ⟨x3, e_x3⟩ : ∃ ww9 : Int32, ww9 = y5 + 1 := ⟨_, rfl⟩
          refine lv_iinc (v := x3) (lv' := [(5, .int x3), (3, .long 0), (6, .long x1), (0, .ref b), (1, .int 0), (2, .int i0)]) hx hb d_Mo_eight_54 hl (k := 2) rfl (by rw [e_x3]; rfl) (by decide) rfl (fun ls hl => ?_)
          refine lv_goto (tgt := 5) hx hb d_Mo_eight_57 (by decide) ?_
          exact ih_5 (k + 1) x3 _ _ _ hlt (nb_s e_x3 hk) (z_m hm_5 hlt) hI (lv_sub hl [0, 1, 3, 4, 5] rfl)
  exact L_5 _ 0 0 _ _ _ (Nat.zero_le _) rfl (Nat.lt_succ_self _) hI (lv_sub hl [0, 1, 2, 3, 4] rfl)

abbrev rm_Mo_packet : Room := { frames := 1, cells := 0, slots := 0, locals := 27 }
set_option maxHeartbeats 4000000 in
set_option maxRecDepth 100000 in
theorem c_Mo_packet (l : Launch) {D : gw_D} {Hs : Heap} {G : gw_G} (i0 : Int32) (o : Nat) (q : Nat → Nat) (t0 f0 g0 : Int32) (hO : G o = some (kx (mo_ob q t0 f0 0 g0))) (hA : mo_ok D tZ q G) : Met l y_Mo_packet (Cond.code y_Mo_packet b_Mo_packet 2 (some .long) :: tb) rm_Mo_packet (gw_Pc D Hs G [.ref o, .int i0]) (gw_Ql D Hs (fun r G1 => r = 0 ∧ G1 = gw_up G o (kx (mo_ob q 0 f0 0 g0)))) 0 0 (gw_A Hs) := by
  refine gw_met (by decide) (Nat.le_of_ble_eq_true rfl) ?_
  intro p e s m args below meth c M hK hr hlo hin hI ls hl
  have hx := M.1
  have hb := M.2.1
  have hl : lv_has ls 2 [(0, .ref o), (1, .int i0)] := hl
  refine lv_aload_n hx hb d_Mo_packet_0 rfl (lv_at hl 0 rfl) ?_
  refine lv_iconst (v := 0) hx hb d_Mo_packet_1 (by decide) ?_
  refine gw_put M hK hI hO i_Mo t_Mo tk_Mo n_Mo rfl 0 (by decide) f_Mo_94 rfl rfl rfl (kx (mo_ob q 0 f0 0 g0)) (fun x hx => ⟨_, hx, Nat.le_of_ble_eq_true rfl, rfl⟩) d_Mo_packet_2 (fun H locs hI => ?_)
  obtain ⟨G1, hE_G1⟩ : ∃ z9, gw_up G o (kx (mo_ob q 0 f0 0 g0)) = z9 := ⟨_, rfl⟩
  rw [hE_G1] at hI
  have hG3 : G1 o = some (kx (mo_ob q 0 f0 0 g0)) := by rw [← hE_G1]; exact gw_up_s
  have hs2 : gw_fr (fun b => b = o) G G1 := by rw [← hE_G1]; exact gw_fr.up rfl
  have hA := hA.fr hO hs2
  refine lv_aload_n hx hb d_Mo_packet_5 rfl (lv_at hl 0 rfl) ?_
  refine gw_get M hK hI hG3 i_Mo rfl 18 (by decide) f_Mo_60 rfl (Pv := fun v => v = .ref (q 18)) (fun x hx => ⟨_, _, hx, rfl, rfl⟩) d_Mo_packet_6 (fun v hv => ?_)
  subst hv
  refine lv_aload_n hx hb d_Mo_packet_9 rfl (lv_at hl 0 rfl) ?_
  refine gw_get M hK hI hG3 i_Mo rfl 19 (by decide) f_Mo_151 rfl (Pv := fun v => v = .int 0) (fun x hx => ⟨_, _, hx, rfl, rfl⟩) d_Mo_packet_10 (fun v hv => ?_)
  subst hv
  refine lv_iload_n hx hb d_Mo_packet_13 rfl (lv_at hl 1 rfl) ?_
  refine gw_Sl (As := [.ref (q 18), .int 0, .int i0]) (rest := []) M hK hI (c_Mo_eight l (q 18) 0 i0 (hA.2 18 rfl : _ = some (kA D 0 240 tT))) k_Mo_eight m_Mo_164 rfl hl.1 rfl (Nat.le_of_ble_eq_true rfl) ⟨rfl, rfl, ⟨Nat.le_of_ble_eq_true rfl, Nat.le_of_ble_eq_true rfl⟩, ⟨Nat.le_of_ble_eq_true rfl, Nat.le_of_ble_eq_true rfl⟩⟩ d_Mo_packet_14 (fun x4 G9 H locs hw hI => ?_)
  obtain ⟨h_x4, hw⟩ := hw
  rw [hw] at hI
  subst h_x4
  exact gw_lret M hr hlo hI d_Mo_packet_17 (⟨rfl, (by first | rfl | exact hE_G1.symm | (rw [← hE_G1]; simp only [gw_up_up]) | (simp only [← hE_G1, gw_up_up]))⟩)

abbrev rm_Mo_data : Room := { frames := 1, cells := 0, slots := 0, locals := 27 }
set_option maxHeartbeats 4000000 in
set_option maxRecDepth 100000 in
theorem c_Mo_data (l : Launch) {D : gw_D} {Hs : Heap} {G : gw_G} (i0 : Int32) (o : Nat) (q : Nat → Nat) (t0 f0 l0 : Int32) (hO : G o = some (kx (mo_ob q t0 f0 l0 0))) (hA : mo_ok D tZ q G) : Met l y_Mo_data (Cond.code y_Mo_data b_Mo_data 2 (some .long) :: tb) rm_Mo_data (gw_Pc D Hs G [.ref o, .int i0]) (gw_Ql D Hs (fun r G1 => r = 0 ∧ G1 = gw_up G o (kx (mo_ob q 0 f0 l0 0)))) 0 0 (gw_A Hs) := by
  refine gw_met (by decide) (Nat.le_of_ble_eq_true rfl) ?_
  intro p e s m args below meth c M hK hr hlo hin hI ls hl
  have hx := M.1
  have hb := M.2.1
  have hl : lv_has ls 2 [(0, .ref o), (1, .int i0)] := hl
  refine lv_aload_n hx hb d_Mo_data_0 rfl (lv_at hl 0 rfl) ?_
  refine lv_iconst (v := 0) hx hb d_Mo_data_1 (by decide) ?_
  refine gw_put M hK hI hO i_Mo t_Mo tk_Mo n_Mo rfl 0 (by decide) f_Mo_94 rfl rfl rfl (kx (mo_ob q 0 f0 l0 0)) (fun x hx => ⟨_, hx, Nat.le_of_ble_eq_true rfl, rfl⟩) d_Mo_data_2 (fun H locs hI => ?_)
  obtain ⟨G1, hE_G1⟩ : ∃ z9, gw_up G o (kx (mo_ob q 0 f0 l0 0)) = z9 := ⟨_, rfl⟩
  rw [hE_G1] at hI
  have hG3 : G1 o = some (kx (mo_ob q 0 f0 l0 0)) := by rw [← hE_G1]; exact gw_up_s
  have hs2 : gw_fr (fun b => b = o) G G1 := by rw [← hE_G1]; exact gw_fr.up rfl
  have hA := hA.fr hO hs2
  refine lv_aload_n hx hb d_Mo_data_5 rfl (lv_at hl 0 rfl) ?_
  refine gw_get M hK hI hG3 i_Mo rfl 22 (by decide) f_Mo_69 rfl (Pv := fun v => v = .ref (q 22)) (fun x hx => ⟨_, _, hx, rfl, rfl⟩) d_Mo_data_6 (fun v hv => ?_)
  subst hv
  refine lv_aload_n hx hb d_Mo_data_9 rfl (lv_at hl 0 rfl) ?_
  refine gw_get M hK hI hG3 i_Mo rfl 23 (by decide) f_Mo_168 rfl (Pv := fun v => v = .int 0) (fun x hx => ⟨_, _, hx, rfl, rfl⟩) d_Mo_data_10 (fun v hv => ?_)
  subst hv
  refine lv_iload_n hx hb d_Mo_data_13 rfl (lv_at hl 1 rfl) ?_
  refine gw_Sl (As := [.ref (q 22), .int 0, .int i0]) (rest := []) M hK hI (c_Mo_eight l (q 22) 0 i0 (hA.2 22 rfl : _ = some (kA D 0 240 tT))) k_Mo_eight m_Mo_164 rfl hl.1 rfl (Nat.le_of_ble_eq_true rfl) ⟨rfl, rfl, ⟨Nat.le_of_ble_eq_true rfl, Nat.le_of_ble_eq_true rfl⟩, ⟨Nat.le_of_ble_eq_true rfl, Nat.le_of_ble_eq_true rfl⟩⟩ d_Mo_data_14 (fun x4 G9 H locs hw hI => ?_)
  obtain ⟨h_x4, hw⟩ := hw
  rw [hw] at hI
  subst h_x4
  exact gw_lret M hr hlo hI d_Mo_data_17 (⟨rfl, (by first | rfl | exact hE_G1.symm | (rw [← hE_G1]; simp only [gw_up_up]) | (simp only [← hE_G1, gw_up_up]))⟩)

abbrev rm_Mo_spoil : Room := { frames := 0, cells := 0, slots := 0, locals := 0 }
set_option maxHeartbeats 4000000 in
set_option maxRecDepth 100000 in
theorem c_Mo_spoil (l : Launch) {D : gw_D} {Hs : Heap} {G : gw_G} (i0 v0 : Int32) (o : Nat) (q : Nat → Nat) (t0 f0 g0 : Int32) (hO : G o = some (kx (mo_ob q t0 f0 0 g0))) (hA : mo_ok D tZ q G) : Met l y_Mo_spoil (Cond.code y_Mo_spoil b_Mo_spoil 4 (some .int) :: tb) rm_Mo_spoil (gw_Pc D Hs G [.ref o, .int i0, .int v0]) (gw_Qi D Hs (fun r G1 => G1 = gw_up G o (kx (mo_ob q 1 f0 0 g0)))) 0 0 (gw_A Hs) := by
  refine gw_met (by decide) (Nat.le_of_ble_eq_true rfl) ?_
  intro p e s m args below meth c M hK hr hlo hin hI ls hl
  have hx := M.1
  have hb := M.2.1
  have hl : lv_has ls 4 [(0, .ref o), (1, .int i0), (2, .int v0)] := hl
  refine lv_aload_n hx hb d_Mo_spoil_0 rfl (lv_at hl 0 rfl) ?_
  refine lv_iload_n hx hb d_Mo_spoil_1 rfl (lv_at hl 1 rfl) ?_
  refine lv_if_lt (tgt := 13) hx hb d_Mo_spoil_2 (by decide) (fun c_2 => ?_) (fun c_2 => ?_)
  · refine lv_iconst (v := 1) hx hb d_Mo_spoil_13 (by decide) ?_
    refine lv_goto (tgt := 33) hx hb d_Mo_spoil_14 (by decide) ?_
    refine gw_put M hK hI hO i_Mo t_Mo tk_Mo n_Mo rfl 0 (by decide) f_Mo_94 rfl rfl rfl (kx (mo_ob q 1 f0 0 g0)) (fun x hx => ⟨_, hx, Nat.le_of_ble_eq_true rfl, rfl⟩) d_Mo_spoil_33 (fun H locs hI => ?_)
    obtain ⟨G1, hE_G1⟩ : ∃ z9, gw_up G o (kx (mo_ob q 1 f0 0 g0)) = z9 := ⟨_, rfl⟩
    rw [hE_G1] at hI
    have hG3 : G1 o = some (kx (mo_ob q 1 f0 0 g0)) := by rw [← hE_G1]; exact gw_up_s
    have hs2 : gw_fr (fun b => b = o) G G1 := by rw [← hE_G1]; exact gw_fr.up rfl
    have hA := hA.fr hO hs2
    refine lv_aload_n hx hb d_Mo_spoil_36 rfl (lv_at hl 0 rfl) ?_
    refine gw_get M hK hI hG3 i_Mo rfl 0 (by decide) f_Mo_94 rfl (Pv := fun v => v = .int 1) (fun x hx => ⟨_, _, hx, rfl, rfl⟩) d_Mo_spoil_37 (fun v hv => ?_)
    subst hv
    refine lv_if_le (tgt := 45) hx hb d_Mo_spoil_40 (by decide) (fun q9 => absurd q9 (by decide)) (fun c_40 => ?_)
    refine lv_iconst (v := 0) hx hb d_Mo_spoil_43 (by decide) ?_
    exact gw_iret M hr hlo hI d_Mo_spoil_44 (by first | rfl | exact hE_G1.symm | (rw [← hE_G1]; simp only [gw_up_up]) | (simp only [← hE_G1, gw_up_up]))
  · refine lv_iload_n hx hb d_Mo_spoil_5 rfl (lv_at hl 1 rfl) ?_
    refine lv_aload_n hx hb d_Mo_spoil_6 rfl (lv_at hl 0 rfl) ?_
    refine gw_get M hK hI hO i_Mo rfl 19 (by decide) f_Mo_151 rfl (Pv := fun v => v = .int 0) (fun x hx => ⟨_, _, hx, rfl, rfl⟩) d_Mo_spoil_7 (fun v hv => ?_)
    subst hv
    refine lv_icmp_lt (tgt := 17) hx hb d_Mo_spoil_10 (by decide) (fun q9 => absurd q9 c_2) (fun c_10 => ?_)
    refine lv_iconst (v := 1) hx hb d_Mo_spoil_13 (by decide) ?_
    refine lv_goto (tgt := 33) hx hb d_Mo_spoil_14 (by decide) ?_
    refine gw_put M hK hI hO i_Mo t_Mo tk_Mo n_Mo rfl 0 (by decide) f_Mo_94 rfl rfl rfl (kx (mo_ob q 1 f0 0 g0)) (fun x hx => ⟨_, hx, Nat.le_of_ble_eq_true rfl, rfl⟩) d_Mo_spoil_33 (fun H locs hI => ?_)
    obtain ⟨G4, hE_G4⟩ : ∃ z9, gw_up G o (kx (mo_ob q 1 f0 0 g0)) = z9 := ⟨_, rfl⟩
    rw [hE_G4] at hI
    have hG6 : G4 o = some (kx (mo_ob q 1 f0 0 g0)) := by rw [← hE_G4]; exact gw_up_s
    have hs5 : gw_fr (fun b => b = o) G G4 := by rw [← hE_G4]; exact gw_fr.up rfl
    have hA := hA.fr hO hs5
    refine lv_aload_n hx hb d_Mo_spoil_36 rfl (lv_at hl 0 rfl) ?_
    refine gw_get M hK hI hG6 i_Mo rfl 0 (by decide) f_Mo_94 rfl (Pv := fun v => v = .int 1) (fun x hx => ⟨_, _, hx, rfl, rfl⟩) d_Mo_spoil_37 (fun v hv => ?_)
    subst hv
    refine lv_if_le (tgt := 45) hx hb d_Mo_spoil_40 (by decide) (fun q9 => absurd q9 (by decide)) (fun c_40 => ?_)
    refine lv_iconst (v := 0) hx hb d_Mo_spoil_43 (by decide) ?_
    exact gw_iret M hr hlo hI d_Mo_spoil_44 (by first | rfl | exact hE_G4.symm | (rw [← hE_G4]; simp only [gw_up_up]) | (simp only [← hE_G4, gw_up_up]))

theorem cut_0 {x : Int32} (h0 : ¬ x < 0) (h : x ≤ 0) : x = 0 := by
  rw [Int32.lt_iff_toInt_lt] at h0
  rw [Int32.le_iff_toInt_le] at h
  apply Int32.toInt_inj.mp
  have e0 : (0 : Int32).toInt = 0 := rfl
  omega
theorem cut_1 {x : Int32} (h : x < 0) : ¬ x = 0 := fun e => by rw [e] at h; exact absurd h (by decide)
theorem cut_2 {x : Int32} (h : ¬ x ≤ 0) : ¬ x = 0 := fun e => h (by rw [e]; decide)

abbrev rm_Mo_cut : Room := { frames := 0, cells := 0, slots := 0, locals := 0 }
set_option maxHeartbeats 4000000 in
set_option maxRecDepth 100000 in
theorem c_Mo_cut (l : Launch) {D : gw_D} {Hs : Heap} {G : gw_G} (n0 : Int32) (o : Nat) (q : Nat → Nat) (t0 f0 g0 : Int32) (hO : G o = some (kx (mo_ob q t0 f0 0 g0))) (hA : mo_ok D tZ q G) : Met l y_Mo_cut (Cond.code y_Mo_cut b_Mo_cut 2 none :: tb) rm_Mo_cut (gw_Pc D Hs G [.ref o, .int n0]) (gw_Qv D Hs (fun G1 => (n0 = 0 ∧ G1 = gw_up G o (kx (mo_ob q 0 f0 0 g0))) ∨ (¬ n0 = 0 ∧ G1 = gw_up G o (kx (mo_ob q 1 f0 0 g0))))) 0 0 (gw_A Hs) := by
  refine gw_met (by decide) (Nat.le_of_ble_eq_true rfl) ?_
  intro p e s m args below meth c M hK hr hlo hin hI ls hl
  have hx := M.1
  have hb := M.2.1
  have hl : lv_has ls 2 [(0, .ref o), (1, .int n0)] := hl
  refine lv_aload_n hx hb d_Mo_cut_0 rfl (lv_at hl 0 rfl) ?_
  refine lv_iload_n hx hb d_Mo_cut_1 rfl (lv_at hl 1 rfl) ?_
  refine lv_if_lt (tgt := 13) hx hb d_Mo_cut_2 (by decide) (fun c_2 => ?_) (fun c_2 => ?_)
  · refine lv_iconst (v := 1) hx hb d_Mo_cut_13 (by decide) ?_
    refine lv_goto (tgt := 18) hx hb d_Mo_cut_14 (by decide) ?_
    refine gw_put M hK hI hO i_Mo t_Mo tk_Mo n_Mo rfl 0 (by decide) f_Mo_94 rfl rfl rfl (kx (mo_ob q 1 f0 0 g0)) (fun x hx => ⟨_, hx, Nat.le_of_ble_eq_true rfl, rfl⟩) d_Mo_cut_18 (fun H locs hI => ?_)
    obtain ⟨G1, hE_G1⟩ : ∃ z9, gw_up G o (kx (mo_ob q 1 f0 0 g0)) = z9 := ⟨_, rfl⟩
    rw [hE_G1] at hI
    have hG3 : G1 o = some (kx (mo_ob q 1 f0 0 g0)) := by rw [← hE_G1]; exact gw_up_s
    have hs2 : gw_fr (fun b => b = o) G G1 := by rw [← hE_G1]; exact gw_fr.up rfl
    have hA := hA.fr hO hs2
    refine lv_aload_n hx hb d_Mo_cut_21 rfl (lv_at hl 0 rfl) ?_
    refine lv_aload_n hx hb d_Mo_cut_22 rfl (lv_at hl 0 rfl) ?_
    refine gw_get M hK hI hG3 i_Mo rfl 0 (by decide) f_Mo_94 rfl (Pv := fun v => v = .int 1) (fun x hx => ⟨_, _, hx, rfl, rfl⟩) d_Mo_cut_23 (fun v hv => ?_)
    subst hv
    refine lv_if_le (tgt := 36) hx hb d_Mo_cut_26 (by decide) (fun q9 => absurd q9 (by decide)) (fun c_26 => ?_)
    refine lv_aload_n hx hb d_Mo_cut_29 rfl (lv_at hl 0 rfl) ?_
    refine gw_get M hK hI hG3 i_Mo rfl 19 (by decide) f_Mo_151 rfl (Pv := fun v => v = .int 0) (fun x hx => ⟨_, _, hx, rfl, rfl⟩) d_Mo_cut_30 (fun v hv => ?_)
    subst hv
    refine lv_goto (tgt := 37) hx hb d_Mo_cut_33 (by decide) ?_
    refine gw_put M hK hI hG3 i_Mo t_Mo tk_Mo n_Mo rfl 19 (by decide) f_Mo_151 rfl rfl rfl (kx (mo_ob q 1 f0 0 g0)) (fun x hx => ⟨_, hx, Nat.le_of_ble_eq_true rfl, rfl⟩) d_Mo_cut_37 (fun H locs hI => ?_)
    obtain ⟨G4, hE_G4⟩ : ∃ z9, gw_up G1 o (kx (mo_ob q 1 f0 0 g0)) = z9 := ⟨_, rfl⟩
    rw [hE_G4] at hI
    have hG6 : G4 o = some (kx (mo_ob q 1 f0 0 g0)) := by rw [← hE_G4]; exact gw_up_s
    have hs5 : gw_fr (fun b => b = o) G1 G4 := by rw [← hE_G4]; exact gw_fr.up rfl
    have hA := hA.fr hG3 hs5
    exact gw_vret M hr hlo hI d_Mo_cut_40 (Or.inr ⟨cut_1 c_2, (by first | rfl | exact hE_G4.symm | (rw [← hE_G4, ← hE_G1]; simp only [gw_up_up]) | (simp only [← hE_G4, ← hE_G1, gw_up_up]))⟩)
  · refine lv_iload_n hx hb d_Mo_cut_5 rfl (lv_at hl 1 rfl) ?_
    refine lv_aload_n hx hb d_Mo_cut_6 rfl (lv_at hl 0 rfl) ?_
    refine gw_get M hK hI hO i_Mo rfl 19 (by decide) f_Mo_151 rfl (Pv := fun v => v = .int 0) (fun x hx => ⟨_, _, hx, rfl, rfl⟩) d_Mo_cut_7 (fun v hv => ?_)
    subst hv
    refine lv_icmp_le (tgt := 17) hx hb d_Mo_cut_10 (by decide) (fun c_10 => ?_) (fun c_10 => ?_)
    · have hc10 := c_10
      refine lv_iconst (v := 0) hx hb d_Mo_cut_17 (by decide) ?_
      refine gw_put M hK hI hO i_Mo t_Mo tk_Mo n_Mo rfl 0 (by decide) f_Mo_94 rfl rfl rfl (kx (mo_ob q 0 f0 0 g0)) (fun x hx => ⟨_, hx, Nat.le_of_ble_eq_true rfl, rfl⟩) d_Mo_cut_18 (fun H locs hI => ?_)
      obtain ⟨G7, hE_G7⟩ : ∃ z9, gw_up G o (kx (mo_ob q 0 f0 0 g0)) = z9 := ⟨_, rfl⟩
      rw [hE_G7] at hI
      have hG9 : G7 o = some (kx (mo_ob q 0 f0 0 g0)) := by rw [← hE_G7]; exact gw_up_s
      have hs8 : gw_fr (fun b => b = o) G G7 := by rw [← hE_G7]; exact gw_fr.up rfl
      have hA := hA.fr hO hs8
      refine lv_aload_n hx hb d_Mo_cut_21 rfl (lv_at hl 0 rfl) ?_
      refine lv_aload_n hx hb d_Mo_cut_22 rfl (lv_at hl 0 rfl) ?_
      refine gw_get M hK hI hG9 i_Mo rfl 0 (by decide) f_Mo_94 rfl (Pv := fun v => v = .int 0) (fun x hx => ⟨_, _, hx, rfl, rfl⟩) d_Mo_cut_23 (fun v hv => ?_)
      subst hv
      refine lv_if_le (tgt := 36) hx hb d_Mo_cut_26 (by decide) (fun c_26 => ?_) (fun q9 => absurd (by decide) q9)
      refine lv_iload_n hx hb d_Mo_cut_36 rfl (lv_at hl 1 rfl) ?_
      refine gw_put M hK hI hG9 i_Mo t_Mo tk_Mo n_Mo rfl 19 (by decide) f_Mo_151 rfl rfl rfl (kx (mo_ob q 0 f0 n0 g0)) (fun x hx => ⟨_, hx, Nat.le_of_ble_eq_true rfl, rfl⟩) d_Mo_cut_37 (fun H locs hI => ?_)
      obtain ⟨G10, hE_G10⟩ : ∃ z9, gw_up G7 o (kx (mo_ob q 0 f0 n0 g0)) = z9 := ⟨_, rfl⟩
      rw [hE_G10] at hI
      have hG12 : G10 o = some (kx (mo_ob q 0 f0 n0 g0)) := by rw [← hE_G10]; exact gw_up_s
      have hs11 : gw_fr (fun b => b = o) G7 G10 := by rw [← hE_G10]; exact gw_fr.up rfl
      have hA := hA.fr hG9 hs11
      exact gw_vret M hr hlo hI d_Mo_cut_40 (Or.inl ⟨cut_0 c_2 c_10, by rw [← hE_G10, ← hE_G7]; simp only [gw_up_up]; rw [cut_0 c_2 c_10]⟩)
    · have hc10 := c_10
      refine lv_iconst (v := 1) hx hb d_Mo_cut_13 (by decide) ?_
      refine lv_goto (tgt := 18) hx hb d_Mo_cut_14 (by decide) ?_
      refine gw_put M hK hI hO i_Mo t_Mo tk_Mo n_Mo rfl 0 (by decide) f_Mo_94 rfl rfl rfl (kx (mo_ob q 1 f0 0 g0)) (fun x hx => ⟨_, hx, Nat.le_of_ble_eq_true rfl, rfl⟩) d_Mo_cut_18 (fun H locs hI => ?_)
      obtain ⟨G13, hE_G13⟩ : ∃ z9, gw_up G o (kx (mo_ob q 1 f0 0 g0)) = z9 := ⟨_, rfl⟩
      rw [hE_G13] at hI
      have hG15 : G13 o = some (kx (mo_ob q 1 f0 0 g0)) := by rw [← hE_G13]; exact gw_up_s
      have hs14 : gw_fr (fun b => b = o) G G13 := by rw [← hE_G13]; exact gw_fr.up rfl
      have hA := hA.fr hO hs14
      refine lv_aload_n hx hb d_Mo_cut_21 rfl (lv_at hl 0 rfl) ?_
      refine lv_aload_n hx hb d_Mo_cut_22 rfl (lv_at hl 0 rfl) ?_
      refine gw_get M hK hI hG15 i_Mo rfl 0 (by decide) f_Mo_94 rfl (Pv := fun v => v = .int 1) (fun x hx => ⟨_, _, hx, rfl, rfl⟩) d_Mo_cut_23 (fun v hv => ?_)
      subst hv
      refine lv_if_le (tgt := 36) hx hb d_Mo_cut_26 (by decide) (fun q9 => absurd q9 (by decide)) (fun c_26 => ?_)
      refine lv_aload_n hx hb d_Mo_cut_29 rfl (lv_at hl 0 rfl) ?_
      refine gw_get M hK hI hG15 i_Mo rfl 19 (by decide) f_Mo_151 rfl (Pv := fun v => v = .int 0) (fun x hx => ⟨_, _, hx, rfl, rfl⟩) d_Mo_cut_30 (fun v hv => ?_)
      subst hv
      refine lv_goto (tgt := 37) hx hb d_Mo_cut_33 (by decide) ?_
      refine gw_put M hK hI hG15 i_Mo t_Mo tk_Mo n_Mo rfl 19 (by decide) f_Mo_151 rfl rfl rfl (kx (mo_ob q 1 f0 0 g0)) (fun x hx => ⟨_, hx, Nat.le_of_ble_eq_true rfl, rfl⟩) d_Mo_cut_37 (fun H locs hI => ?_)
      obtain ⟨G16, hE_G16⟩ : ∃ z9, gw_up G13 o (kx (mo_ob q 1 f0 0 g0)) = z9 := ⟨_, rfl⟩
      rw [hE_G16] at hI
      have hG18 : G16 o = some (kx (mo_ob q 1 f0 0 g0)) := by rw [← hE_G16]; exact gw_up_s
      have hs17 : gw_fr (fun b => b = o) G13 G16 := by rw [← hE_G16]; exact gw_fr.up rfl
      have hA := hA.fr hG15 hs17
      exact gw_vret M hr hlo hI d_Mo_cut_40 (Or.inr ⟨cut_2 c_10, (by first | rfl | exact hE_G16.symm | (rw [← hE_G16, ← hE_G13]; simp only [gw_up_up]) | (simp only [← hE_G16, ← hE_G13, gw_up_up]))⟩)

abbrev rm_Mo_bring : Room := { frames := 0, cells := 0, slots := 0, locals := 0 }
set_option maxHeartbeats 4000000 in
set_option maxRecDepth 100000 in
theorem c_Mo_bring (l : Launch) {D : gw_D} {Hs : Heap} {G : gw_G} (n0 : Int32) (o : Nat) (q : Nat → Nat) (t0 f0 l0 g0 : Int32) (hO : G o = some (kx (mo_ob q t0 f0 l0 g0))) (hA : mo_ok D tZ q G) : Met l y_Mo_bring (Cond.code y_Mo_bring b_Mo_bring 3 (some .int) :: tb) rm_Mo_bring (gw_Pc D Hs G [.ref o, .int n0]) (gw_Qi D Hs (fun r G1 => ((¬ n0 < 0 ∧ n0 ≤ 7) ∧ r = -1 ∧ G1 = gw_up G o (kx (mo_ob q 0 f0 l0 g0))) ∨ ((n0 < 0 ∨ ¬ n0 ≤ 7) ∧ G1 = gw_up G o (kx (mo_ob q 1 f0 l0 g0))))) 0 0 (gw_A Hs) := by
  refine gw_met (by decide) (Nat.le_of_ble_eq_true rfl) ?_
  intro p e s m args below meth c M hK hr hlo hin hI ls hl
  have hx := M.1
  have hb := M.2.1
  have hl : lv_has ls 3 [(0, .ref o), (1, .int n0)] := hl
  refine lv_aload_n hx hb d_Mo_bring_0 rfl (lv_at hl 0 rfl) ?_
  refine lv_iload_n hx hb d_Mo_bring_1 rfl (lv_at hl 1 rfl) ?_
  refine lv_if_lt (tgt := 11) hx hb d_Mo_bring_2 (by decide) (fun c_2 => ?_) (fun c_2 => ?_)
  · refine lv_iconst (v := 1) hx hb d_Mo_bring_11 (by decide) ?_
    refine lv_goto (tgt := 16) hx hb d_Mo_bring_12 (by decide) ?_
    refine gw_put M hK hI hO i_Mo t_Mo tk_Mo n_Mo rfl 0 (by decide) f_Mo_94 rfl rfl rfl (kx (mo_ob q 1 f0 l0 g0)) (fun x hx => ⟨_, hx, Nat.le_of_ble_eq_true rfl, rfl⟩) d_Mo_bring_16 (fun H locs hI => ?_)
    obtain ⟨G1, hE_G1⟩ : ∃ z9, gw_up G o (kx (mo_ob q 1 f0 l0 g0)) = z9 := ⟨_, rfl⟩
    rw [hE_G1] at hI
    have hG3 : G1 o = some (kx (mo_ob q 1 f0 l0 g0)) := by rw [← hE_G1]; exact gw_up_s
    have hs2 : gw_fr (fun b => b = o) G G1 := by rw [← hE_G1]; exact gw_fr.up rfl
    have hA := hA.fr hO hs2
    refine lv_aload_n hx hb d_Mo_bring_19 rfl (lv_at hl 0 rfl) ?_
    refine gw_get M hK hI hG3 i_Mo rfl 0 (by decide) f_Mo_94 rfl (Pv := fun v => v = .int 1) (fun x hx => ⟨_, _, hx, rfl, rfl⟩) d_Mo_bring_20 (fun v hv => ?_)
    subst hv
    refine lv_if_le (tgt := 28) hx hb d_Mo_bring_23 (by decide) (fun q9 => absurd q9 (by decide)) (fun c_23 => ?_)
    refine lv_iconst (v := 0) hx hb d_Mo_bring_26 (by decide) ?_
    exact gw_iret M hr hlo hI d_Mo_bring_27 (Or.inr ⟨Or.inl c_2, (by first | rfl | exact hE_G1.symm | (rw [← hE_G1]; simp only [gw_up_up]) | (simp only [← hE_G1, gw_up_up]))⟩)
  · refine lv_iload_n hx hb d_Mo_bring_5 rfl (lv_at hl 1 rfl) ?_
    refine lv_bipush (v := 7) hx hb d_Mo_bring_6 (by decide) ?_
    refine lv_icmp_le (tgt := 15) hx hb d_Mo_bring_8 (by decide) (fun c_8 => ?_) (fun c_8 => ?_)
    · refine lv_iconst (v := 0) hx hb d_Mo_bring_15 (by decide) ?_
      refine gw_put M hK hI hO i_Mo t_Mo tk_Mo n_Mo rfl 0 (by decide) f_Mo_94 rfl rfl rfl (kx (mo_ob q 0 f0 l0 g0)) (fun x hx => ⟨_, hx, Nat.le_of_ble_eq_true rfl, rfl⟩) d_Mo_bring_16 (fun H locs hI => ?_)
      obtain ⟨G4, hE_G4⟩ : ∃ z9, gw_up G o (kx (mo_ob q 0 f0 l0 g0)) = z9 := ⟨_, rfl⟩
      rw [hE_G4] at hI
      have hG6 : G4 o = some (kx (mo_ob q 0 f0 l0 g0)) := by rw [← hE_G4]; exact gw_up_s
      have hs5 : gw_fr (fun b => b = o) G G4 := by rw [← hE_G4]; exact gw_fr.up rfl
      have hA := hA.fr hO hs5
      refine lv_aload_n hx hb d_Mo_bring_19 rfl (lv_at hl 0 rfl) ?_
      refine gw_get M hK hI hG6 i_Mo rfl 0 (by decide) f_Mo_94 rfl (Pv := fun v => v = .int 0) (fun x hx => ⟨_, _, hx, rfl, rfl⟩) d_Mo_bring_20 (fun v hv => ?_)
      subst hv
      refine lv_if_le (tgt := 28) hx hb d_Mo_bring_23 (by decide) (fun c_23 => ?_) (fun q9 => absurd (by decide) q9)
      refine lv_aload_n hx hb d_Mo_bring_28 rfl (lv_at hl 0 rfl) ?_
      refine gw_get M hK hI hG6 i_Mo rfl 21 (by decide) f_Mo_66 rfl (Pv := fun v => v = .ref (q 21)) (fun x hx => ⟨_, _, hx, rfl, rfl⟩) d_Mo_bring_29 (fun v hv => ?_)
      subst hv
      refine lv_iload_n hx hb d_Mo_bring_32 rfl (lv_at hl 1 rfl) ?_
      refine gw_iald M hK hI (hA.2 21 rfl : _ = some (kA D 0 8 tM)) (by obtain ⟨k, hk, rfl⟩ := n0_of (n := 7) rfl c_2 c_8; exact vp_in_nI (by omega) (by decide)) d_Mo_bring_33 (fun x7 h_x7 => ?_)
      refine lv_if_ge (tgt := 39) hx hb d_Mo_bring_34 (by decide) (fun q9 => absurd q9 (by rw [show x7 = -1 from h_x7]; decide)) (fun c_34 => ?_)
      refine lv_iconst (v := (-1)) hx hb d_Mo_bring_37 (by decide) ?_
      exact gw_iret M hr hlo hI d_Mo_bring_38 (Or.inl ⟨⟨c_2, c_8⟩, rfl, (by first | rfl | exact hE_G4.symm | (rw [← hE_G4]; simp only [gw_up_up]) | (simp only [← hE_G4, gw_up_up]))⟩)
    · have hc8 := c_8
      refine lv_iconst (v := 1) hx hb d_Mo_bring_11 (by decide) ?_
      refine lv_goto (tgt := 16) hx hb d_Mo_bring_12 (by decide) ?_
      refine gw_put M hK hI hO i_Mo t_Mo tk_Mo n_Mo rfl 0 (by decide) f_Mo_94 rfl rfl rfl (kx (mo_ob q 1 f0 l0 g0)) (fun x hx => ⟨_, hx, Nat.le_of_ble_eq_true rfl, rfl⟩) d_Mo_bring_16 (fun H locs hI => ?_)
      obtain ⟨G8, hE_G8⟩ : ∃ z9, gw_up G o (kx (mo_ob q 1 f0 l0 g0)) = z9 := ⟨_, rfl⟩
      rw [hE_G8] at hI
      have hG10 : G8 o = some (kx (mo_ob q 1 f0 l0 g0)) := by rw [← hE_G8]; exact gw_up_s
      have hs9 : gw_fr (fun b => b = o) G G8 := by rw [← hE_G8]; exact gw_fr.up rfl
      have hA := hA.fr hO hs9
      refine lv_aload_n hx hb d_Mo_bring_19 rfl (lv_at hl 0 rfl) ?_
      refine gw_get M hK hI hG10 i_Mo rfl 0 (by decide) f_Mo_94 rfl (Pv := fun v => v = .int 1) (fun x hx => ⟨_, _, hx, rfl, rfl⟩) d_Mo_bring_20 (fun v hv => ?_)
      subst hv
      refine lv_if_le (tgt := 28) hx hb d_Mo_bring_23 (by decide) (fun q9 => absurd q9 (by decide)) (fun c_23 => ?_)
      refine lv_iconst (v := 0) hx hb d_Mo_bring_26 (by decide) ?_
      exact gw_iret M hr hlo hI d_Mo_bring_27 (Or.inr ⟨Or.inr c_8, (by first | rfl | exact hE_G8.symm | (rw [← hE_G8]; simp only [gw_up_up]) | (simp only [← hE_G8, gw_up_up]))⟩)
