abbrev rm_Ro_clearX : Room := { frames := 0, cells := 0, slots := 0, locals := 0 }
set_option maxHeartbeats 4000000 in
set_option maxRecDepth 100000 in
theorem c_Ro_clearX (l : Launch) {D : gw_D} {Hs : Heap} {G : gw_G} (a q n : Nat) (hn : n < 2 ^ 31) (hA : G a = some (kRo q n)) (hQ : G q = some (kA D 1 n tT)) : Met l y_Ro_clear (Cond.code y_Ro_clear b_Ro_clear 1 none :: tb) rm_Ro_clearX (gw_Pc D Hs G [.ref a]) (gw_Qv D Hs (fun G1 => G1 = gw_up G a (kx (.inr (3, [.ref q, .int (nI 0), .int 1]))))) 0 0 (gw_A Hs) := by
  refine gw_met (by decide) (Nat.le_of_ble_eq_true rfl) ?_
  intro p e s m args below meth c M hK hr hlo hin hI ls hl
  have hx := M.1
  have hb := M.2.1
  have hl : lv_has ls 1 [(0, .ref a)] := hl
  obtain ⟨e9, ⟨ln, th, h_ln, h_th, q9⟩, hP9⟩ := hI.1.opn hA
  subst q9
  have hI : gw_I D Hs (gw_up G a (kx (.inr (3, [.ref q, .int ln, .int th])))) s.heap _ _ := ⟨hP9, hI.2⟩
  obtain ⟨G4, hE_G4⟩ : ∃ z9, gw_up G a (kx (.inr (3, [.ref q, .int ln, .int th]))) = z9 := ⟨_, rfl⟩
  rw [hE_G4] at hI
  have hG6 : G4 a = some (kx (.inr (3, [.ref q, .int ln, .int th]))) := by rw [← hE_G4]; exact gw_up_s
  have hs5 : gw_fr (fun b => b = a) G G4 := by rw [← hE_G4]; exact gw_fr.up rfl
  refine lv_aload_n hx hb d_Ro_clear_0 rfl (lv_at hl 0 rfl) ?_
  refine lv_iconst (v := 0) hx hb d_Ro_clear_1 (by decide) ?_
  refine gw_put M hK hI hG6 i_Ro t_Ro tk_Ro n_Ro rfl 1 (by decide) f_Ro_7 rfl rfl rfl (kx (.inr (3, [.ref q, .int 0, .int th]))) (fun x hx => ⟨_, hx, Nat.le_of_ble_eq_true rfl, rfl⟩) d_Ro_clear_2 (fun H locs hI => ?_)
  obtain ⟨G7, hE_G7⟩ : ∃ z9, gw_up G4 a (kx (.inr (3, [.ref q, .int 0, .int th]))) = z9 := ⟨_, rfl⟩
  rw [hE_G7] at hI
  have hG9 : G7 a = some (kx (.inr (3, [.ref q, .int 0, .int th]))) := by rw [← hE_G7]; exact gw_up_s
  have hs8 : gw_fr (fun b => b = a) G4 G7 := by rw [← hE_G7]; exact gw_fr.up rfl
  refine lv_aload_n hx hb d_Ro_clear_5 rfl (lv_at hl 0 rfl) ?_
  refine lv_iconst (v := 1) hx hb d_Ro_clear_6 (by decide) ?_
  refine gw_put M hK hI hG9 i_Ro t_Ro tk_Ro n_Ro rfl 2 (by decide) f_Ro_13 rfl rfl rfl (kx (.inr (3, [.ref q, .int 0, .int 1]))) (fun x hx => ⟨_, hx, Nat.le_of_ble_eq_true rfl, rfl⟩) d_Ro_clear_7 (fun H locs hI => ?_)
  obtain ⟨G10, hE_G10⟩ : ∃ z9, gw_up G7 a (kx (.inr (3, [.ref q, .int 0, .int 1]))) = z9 := ⟨_, rfl⟩
  rw [hE_G10] at hI
  have hG12 : G10 a = some (kx (.inr (3, [.ref q, .int 0, .int 1]))) := by rw [← hE_G10]; exact gw_up_s
  have hs11 : gw_fr (fun b => b = a) G7 G10 := by rw [← hE_G10]; exact gw_fr.up rfl
  exact gw_vret M hr hlo hI d_Ro_clear_10 (by rw [← hE_G10, ← hE_G7, ← hE_G4]; simp only [gw_up_up]; rfl)

abbrev rm_Ro_appendX : Room := { frames := 0, cells := 0, slots := 0, locals := 0 }
set_option maxHeartbeats 4000000 in
set_option maxRecDepth 100000 in
theorem c_Ro_appendX (l : Launch) {D : gw_D} {Hs : Heap} {G : gw_G} (x0 : Int32) (a q n k : Nat) (hn : n < 2 ^ 31) (hA : G a = some (kx (.inr (3, [.ref q, .int (nI k), .int 1])))) (hQ : G q = some (kA D 1 n tT)) (hk : k < n) : Met l y_Ro_append (Cond.code y_Ro_append b_Ro_append 2 none :: tb) rm_Ro_appendX (gw_Pc D Hs G [.ref a, .int x0]) (gw_Qv D Hs (fun G1 => G1 = gw_up G a (kx (.inr (3, [.ref q, .int (nI (k + 1)), .int 1]))))) 0 0 (gw_A Hs) := by
  refine gw_met (by decide) (Nat.le_of_ble_eq_true rfl) ?_
  intro p e s m args below meth c M hK hr hlo hin hI ls hl
  have hx := M.1
  have hb := M.2.1
  have hl : lv_has ls 2 [(0, .ref a), (1, .int x0)] := hl
  refine lv_aload_n hx hb d_Ro_append_0 rfl (lv_at hl 0 rfl) ?_
  refine gw_get M hK hI hA i_Ro rfl 1 (by decide) f_Ro_7 rfl (Pv := fun v => v = .int (nI k)) (fun x hx => ⟨_, _, hx, rfl, rfl⟩) d_Ro_append_1 (fun v hv => ?_)
  subst hv
  refine lv_aload_n hx hb d_Ro_append_4 rfl (lv_at hl 0 rfl) ?_
  refine gw_get M hK hI hA i_Ro rfl 0 (by decide) f_Ro_17 rfl (Pv := fun v => v = .ref q) (fun x hx => ⟨_, _, hx, rfl, rfl⟩) d_Ro_append_5 (fun v hv => ?_)
  subst hv
  refine gw_alen M hK hI hQ 1 n rfl (fun x hx => by obtain ⟨f9, h9, q9⟩ := hx; exact ⟨_, q9⟩) d_Ro_append_8 ?_
  refine lv_icmp_ge (tgt := 33) hx hb d_Ro_append_9 (by decide) (fun q9 => absurd q9 (fun h9 => by have h8 := nb_ge (n := n) (k := k) rfl h9 hn (by omega); omega)) (fun c_9 => ?_)
  refine lv_aload_n hx hb d_Ro_append_12 rfl (lv_at hl 0 rfl) ?_
  refine gw_get M hK hI hA i_Ro rfl 0 (by decide) f_Ro_17 rfl (Pv := fun v => v = .ref q) (fun x hx => ⟨_, _, hx, rfl, rfl⟩) d_Ro_append_13 (fun v hv => ?_)
  subst hv
  refine lv_aload_n hx hb d_Ro_append_16 rfl (lv_at hl 0 rfl) ?_
  refine gw_get M hK hI hA i_Ro rfl 1 (by decide) f_Ro_7 rfl (Pv := fun v => v = .int (nI k)) (fun x hx => ⟨_, _, hx, rfl, rfl⟩) d_Ro_append_17 (fun v hv => ?_)
  subst hv
  refine lv_iload_n hx hb d_Ro_append_20 rfl (lv_at hl 1 rfl) ?_
  refine lv_i2b hx hb d_Ro_append_21 rfl ?_
  refine lv_topi (fun x1 e_x1 => ?_)
  refine gw_bast M hK hI hQ (vp_in_nI hk hn) trivial d_Ro_append_22 (fun H locs hI => ?_)
  refine lv_aload_n hx hb d_Ro_append_23 rfl (lv_at hl 0 rfl) ?_
  refine lv_dup hx hb d_Ro_append_24 rfl ?_
  refine gw_get M hK hI hA i_Ro rfl 1 (by decide) f_Ro_7 rfl (Pv := fun v => v = .int (nI k)) (fun x hx => ⟨_, _, hx, rfl, rfl⟩) d_Ro_append_25 (fun v hv => ?_)
  subst hv
  refine lv_iconst (v := 1) hx hb d_Ro_append_28 (by decide) ?_
  refine lv_iadd hx hb d_Ro_append_29 ?_
  refine lv_topi (fun x2 e_x2 => ?_)
  refine gw_put M hK hI hA i_Ro t_Ro tk_Ro n_Ro rfl 1 (by decide) f_Ro_7 rfl rfl rfl (kx (.inr (3, [.ref q, .int x2, .int 1]))) (fun x hx => ⟨_, hx, Nat.le_of_ble_eq_true rfl, rfl⟩) d_Ro_append_30 (fun H locs hI => ?_)
  obtain ⟨G3, hE_G3⟩ : ∃ z9, gw_up G a (kx (.inr (3, [.ref q, .int x2, .int 1]))) = z9 := ⟨_, rfl⟩
  rw [hE_G3] at hI
  have hG5 : G3 a = some (kx (.inr (3, [.ref q, .int x2, .int 1]))) := by rw [← hE_G3]; exact gw_up_s
  have hs4 : gw_fr (fun b => b = a) G G3 := by rw [← hE_G3]; exact gw_fr.up rfl
  exact gw_vret M hr hlo hI d_Ro_append_33 (by rw [← hE_G3, e_x2, nI_1])

abbrev rm_Ro_appendNumberX : Room := { frames := 1, cells := 0, slots := 0, locals := 21 }
set_option maxHeartbeats 4000000 in
set_option maxRecDepth 100000 in
theorem c_Ro_appendNumberX (l : Launch) {D : gw_D} {Hs : Heap} {G : gw_G} (v0 : Int64) (m0 : Nat) (hm0 : m0 ≤ 8) (a q n k : Nat) (hn : n < 2 ^ 31) (hA : G a = some (kx (.inr (3, [.ref q, .int (nI k), .int 1])))) (hQ : G q = some (kA D 1 n tT)) (hk : k + m0 ≤ n) : Met l y_Ro_appendNumber (Cond.code y_Ro_appendNumber b_Ro_appendNumber 5 none :: tb) rm_Ro_appendNumberX (gw_Pc D Hs G [.ref a, .long v0, .int (nI m0)]) (gw_Qv D Hs (fun G1 => G1 = gw_up G a (kx (.inr (3, [.ref q, .int (nI (k + m0)), .int 1]))))) 0 0 (gw_A Hs) := by
  refine gw_met (by decide) (Nat.le_of_ble_eq_true rfl) ?_
  intro p e s m args below meth c M hK hr hlo hin hI ls hl
  have hx := M.1
  have hb := M.2.1
  have hl : lv_has ls 5 [(0, .ref a), (1, .long v0), (3, .int (nI m0))] := hl
  have hqa : a ≠ q := ne_x hA hQ (fun q9 => by obtain ⟨f9, -, q9⟩ := q9; cases q9)
  refine lv_iload_n hx hb d_Ro_appendNumber_0 rfl (lv_at hl 2 rfl) ?_
  refine lv_iconst (v := 1) hx hb d_Ro_appendNumber_1 (by decide) ?_
  refine lv_isub hx hb d_Ro_appendNumber_2 ?_
  refine lv_topi (fun x1 e_x1 => ?_)
  refine lv_istore (lv' := [(4, .int x1), (0, .ref a), (1, .long v0), (3, .int (nI m0))]) hx hb d_Ro_appendNumber_3 hl (by decide) rfl (fun ls hl => ?_)
  have L_5 : ∀ (n9 : Nat) (j : Nat) (y4 : Int32) (Gk : gw_G) (H : Heap) (locs : List Loc) (ls : Array Slot), j ≤ m0 → y4 = nI j - 1 → Gk a = some (kx (.inr (3, [.ref q, .int (nI (k + (m0 - j))), .int 1]))) → Gk q = some (kA D 1 n tT) → Gk = gw_up G a (kx (.inr (3, [.ref q, .int (nI (k + (m0 - j))), .int 1]))) → j < n9 → gw_I D Hs Gk s.heap H locs → lv_has ls 5 [(4, .int y4), (0, .ref a), (1, .long v0), (3, .int (nI m0))] → W p l e rm_Ro_appendNumberX s m args below meth c H locs 0 0 (MQ below (gw_Qv D Hs (fun G1 => G1 = gw_up G a (kx (.inr (3, [.ref q, .int (nI (k + m0)), .int 1]))))) args s 0 0 (gw_A Hs)) (F0 m 5 ls []) := by
    intro n9
    induction n9 with
    | zero =>
      intro j y4 Gk H locs ls bj hj hA hQ hGe hm hI hl
      exact absurd hm (Nat.not_lt_zero _)
    | succ n9 ih_5 =>
      intro j y4 Gk H locs ls bj hj hA hQ hGe hm_5 hI hl
      refine lv_iload hx hb d_Ro_appendNumber_5 (lv_at hl 0 rfl) ?_
      refine lv_if_lt (tgt := 28) hx hb d_Ro_appendNumber_7 (by decide) (fun c_7 => ?_) (fun c_7 => ?_)
      · have hj0 : j = 0 := by
          rcases Nat.eq_zero_or_pos j with q9 | q9
          · exact q9
          · exfalso; rw [hj, show j = j - 1 + 1 from by omega, nI_pred] at c_7; exact nI_nn (by omega) c_7
        exact gw_vret M hr hlo hI d_Ro_appendNumber_28 (by rw [hGe, hj0]; rfl)
      · have hj0 : 0 < j := by
          rcases Nat.eq_zero_or_pos j with q9 | q9
          · subst q9; exact absurd (by rw [hj]; decide) c_7
          · exact q9
        refine lv_aload_n hx hb d_Ro_appendNumber_10 rfl (lv_at hl 1 rfl) ?_
        refine lv_lload_n hx hb d_Ro_appendNumber_11 rfl (lv_at hl 2 rfl) ?_
        refine lv_bipush (v := 8) hx hb d_Ro_appendNumber_12 (by decide) ?_
        refine lv_iload hx hb d_Ro_appendNumber_14 (lv_at hl 0 rfl) ?_
        refine lv_imul hx hb d_Ro_appendNumber_16 ?_
        refine lv_lushr hx hb d_Ro_appendNumber_17 rfl ?_
        refine lv_l2i hx hb d_Ro_appendNumber_18 rfl ?_
        refine gw_Vv (As := [.int (((((v0).toUInt64 >>> ((((8 : Int32) * y4)).toInt64.toUInt64 &&& Int64.toUInt64 63)).toInt64)).toInt32)]) (rest := []) M hK hI (c_Ro_appendX l (((((v0).toUInt64 >>> ((((8 : Int32) * y4)).toInt64.toUInt64 &&& Int64.toUInt64 63)).toInt64)).toInt32) a q n (k + (m0 - j)) hn hA hQ (by omega)) k_Ro_append m_Ro_21 hA (ci := 3) rfl (fun x hx => ⟨_, hx⟩) rfl hl.1 rfl (Nat.le_of_ble_eq_true rfl) ⟨rfl, rfl, ⟨Nat.le_of_ble_eq_true rfl, Nat.le_of_ble_eq_true rfl⟩, ⟨Nat.le_of_ble_eq_true rfl, Nat.le_of_ble_eq_true rfl⟩⟩ d_Ro_appendNumber_19 (fun G2 H locs hw hI => ?_)
        have ek : k + (m0 - j) + 1 = k + (m0 - (j - 1)) := by omega
        rw [ek] at hw
        have hA2 : G2 a = some (kx (.inr (3, [.ref q, .int (nI (k + (m0 - (j - 1)))), .int 1]))) := by rw [hw]; exact gw_up_s
        have hQ2 : G2 q = some (kA D 1 n tT) := by rw [hw, gw_up_n (Ne.symm hqa)]; exact hQ
        have hG2 : G2 = gw_up G a (kx (.inr (3, [.ref q, .int (nI (k + (m0 - (j - 1)))), .int 1]))) := by rw [hw, hGe, gw_up_up]
        obtain ⟨x3, e_x3⟩ : ∃ ww9 : Int32, ww9 = y4 + (-1) := ⟨_, rfl⟩
        refine lv_iinc (v := x3) (lv' := [(4, .int x3), (0, .ref a), (1, .long v0), (3, .int (nI m0))]) hx hb d_Ro_appendNumber_22 hl (k := 0) rfl (by rw [e_x3]; rfl) (by decide) rfl (fun ls hl => ?_)
        refine lv_goto (tgt := 5) hx hb d_Ro_appendNumber_25 (by decide) ?_
        exact ih_5 (j - 1) x3 G2 _ _ _ (by omega) (by rw [e_x3, hj, show j = j - 1 + 1 from by omega, nI_pred]; exact (nI_down _).symm) hA2 hQ2 hG2 (by have hm := hm_5; omega) hI (lv_sub hl [0, 1, 2, 3] rfl)
  exact L_5 _ m0 x1 G _ _ _ (Nat.le_refl _) e_x1 (by rw [Nat.sub_self]; exact hA) hQ (by rw [Nat.sub_self]; exact (gw_up_id hA).symm) (Nat.lt_succ_self _) hI (lv_sub hl [0, 1, 2, 3] rfl)

abbrev rm_Ro_appendRowX : Room := { frames := 1, cells := 0, slots := 0, locals := 22 }
set_option maxHeartbeats 4000000 in
set_option maxRecDepth 100000 in
theorem c_Ro_appendRowX (l : Launch) {D : gw_D} {Hs : Heap} {G : gw_G} (a q n k : Nat) (hn : n < 2 ^ 31) (hA : G a = some (kx (.inr (3, [.ref q, .int (nI k), .int 1])))) (hQ : G q = some (kA D 1 n tT)) (b q2 n2 m0 : Nat) (hn2 : n2 < 2 ^ 31) {K2 : va_E → Prop} (hB : G b = some K2) (hR : isRw K2 q2 n2) (hQ2 : G q2 = some (kA D 1 n2 tT)) (hba : b ≠ a) (hqa2 : q2 ≠ a) (hk : k + m0 ≤ n) : Met l y_Ro_appendRow (Cond.code y_Ro_appendRow b_Ro_appendRow 5 none :: tb) rm_Ro_appendRowX (gw_Pc D Hs G [.ref a, .ref b, .int 0, .int (nI m0)]) (gw_Qv D Hs (fun G1 => G1 = gw_up G a (kx (.inr (3, [.ref q, .int (nI (k + m0)), .int 1]))))) 0 0 (gw_A Hs) := by
  refine gw_met (by decide) (Nat.le_of_ble_eq_true rfl) ?_
  intro p e s m args below meth c M hK hr hlo hin hI ls hl
  have hx := M.1
  have hb := M.2.1
  have hl : lv_has ls 5 [(0, .ref a), (1, .ref b), (2, .int 0), (3, .int (nI m0))] := hl
  have hqa : a ≠ q := ne_x hA hQ (fun q9 => by obtain ⟨f9, -, q9⟩ := q9; cases q9)
  refine lv_iload_n hx hb d_Ro_appendRow_0 rfl (lv_at hl 2 rfl) ?_
  refine lv_istore (lv' := [(4, .int 0), (0, .ref a), (1, .ref b), (2, .int 0), (3, .int (nI m0))]) hx hb d_Ro_appendRow_1 hl (by decide) rfl (fun ls hl => ?_)
  have L_3 : ∀ (n9 : Nat) (j : Nat) (y4 : Int32) (Gk : gw_G) (H : Heap) (locs : List Loc) (ls : Array Slot), j ≤ m0 → y4 = nI j → Gk a = some (kx (.inr (3, [.ref q, .int (nI (k + j)), .int 1]))) → Gk q = some (kA D 1 n tT) → Gk b = some K2 → Gk q2 = some (kA D 1 n2 tT) → Gk = gw_up G a (kx (.inr (3, [.ref q, .int (nI (k + j)), .int 1]))) → m0 - j < n9 → gw_I D Hs Gk s.heap H locs → lv_has ls 5 [(4, .int y4), (0, .ref a), (1, .ref b), (2, .int 0), (3, .int (nI m0))] → W p l e rm_Ro_appendRowX s m args below meth c H locs 0 0 (MQ below (gw_Qv D Hs (fun G1 => G1 = gw_up G a (kx (.inr (3, [.ref q, .int (nI (k + m0)), .int 1]))))) args s 0 0 (gw_A Hs)) (F0 m 3 ls []) := by
    intro n9
    induction n9 with
    | zero =>
      intro j y4 Gk H locs ls bj hj hA hQ hB hQ2 hGe hm hI hl
      exact absurd hm (Nat.not_lt_zero _)
    | succ n9 ih_3 =>
      intro j y4 Gk H locs ls bj hj hA hQ hB hQ2 hGe hm_3 hI hl
      refine lv_iload hx hb d_Ro_appendRow_3 (lv_at hl 0 rfl) ?_
      refine lv_iload_n hx hb d_Ro_appendRow_5 rfl (lv_at hl 4 rfl) ?_
      refine lv_icmp_ge (tgt := 26) hx hb d_Ro_appendRow_6 (by decide) (fun c_6 => ?_) (fun c_6 => ?_)
      · have hj0 : j = m0 := Nat.le_antisymm bj (nb_ge (n := m0) hj c_6 (by omega) (by omega))
        exact gw_vret M hr hlo hI d_Ro_appendRow_26 (by rw [hGe, hj0])
      · have lj : j < m0 := nb_lt (n := m0) hj c_6 (by omega) (by omega)
        refine lv_aload_n hx hb d_Ro_appendRow_9 rfl (lv_at hl 1 rfl) ?_
        refine lv_aload_n hx hb d_Ro_appendRow_10 rfl (lv_at hl 2 rfl) ?_
        refine lv_iload hx hb d_Ro_appendRow_11 (lv_at hl 0 rfl) ?_
        refine lv_i2l hx hb d_Ro_appendRow_13 rfl ?_
        refine gw_Vi (As := [.long ((y4).toInt64)]) (rest := [.ref a]) M hK hI (c_Ro_at l ((y4).toInt64) b q2 n2 hn2 hB hR hQ2) k_Ro_at m_Ro_25 hB (ci := 3) rfl (fun x hx => by obtain ⟨k9, t9, h9, q9⟩ := hR x hx; exact ⟨_, q9⟩) rfl hl.1 rfl (Nat.le_of_ble_eq_true rfl) ⟨rfl, rfl, ⟨Nat.le_of_ble_eq_true rfl, Nat.le_of_ble_eq_true rfl⟩, ⟨Nat.le_of_ble_eq_true rfl, Nat.le_of_ble_eq_true rfl⟩⟩ d_Ro_appendRow_14 (fun x1 G9 H locs hw hI => ?_)
        rw [hw] at hI
        refine gw_Vv (As := [.int x1]) (rest := []) M hK hI (c_Ro_appendX l x1 a q n (k + j) hn hA hQ (by omega)) k_Ro_append m_Ro_21 hA (ci := 3) rfl (fun x hx => ⟨_, hx⟩) rfl hl.1 rfl (Nat.le_of_ble_eq_true rfl) ⟨rfl, rfl, ⟨Nat.le_of_ble_eq_true rfl, Nat.le_of_ble_eq_true rfl⟩, ⟨Nat.le_of_ble_eq_true rfl, Nat.le_of_ble_eq_true rfl⟩⟩ d_Ro_appendRow_17 (fun G2 H locs hw hI => ?_)
        have hA2 : G2 a = some (kx (.inr (3, [.ref q, .int (nI (k + (j + 1))), .int 1]))) := by rw [hw]; exact gw_up_s
        have hQ3 : G2 q = some (kA D 1 n tT) := by rw [hw, gw_up_n (Ne.symm hqa)]; exact hQ
        have hB2 : G2 b = some K2 := by rw [hw, gw_up_n hba]; exact hB
        have hQ22 : G2 q2 = some (kA D 1 n2 tT) := by rw [hw, gw_up_n hqa2]; exact hQ2
        have hG2 : G2 = gw_up G a (kx (.inr (3, [.ref q, .int (nI (k + (j + 1))), .int 1]))) := by rw [hw, hGe, gw_up_up]; rfl
        obtain ⟨x3, e_x3⟩ : ∃ ww9 : Int32, ww9 = y4 + 1 := ⟨_, rfl⟩
        refine lv_iinc (v := x3) (lv' := [(4, .int x3), (0, .ref a), (1, .ref b), (2, .int 0), (3, .int (nI m0))]) hx hb d_Ro_appendRow_20 hl (k := 0) rfl (by rw [e_x3]; rfl) (by decide) rfl (fun ls hl => ?_)
        refine lv_goto (tgt := 3) hx hb d_Ro_appendRow_23 (by decide) ?_
        exact ih_3 (j + 1) x3 G2 _ _ _ lj (nb_s e_x3 hj) hA2 hQ3 hB2 hQ22 hG2 (z_m hm_3 lj) hI (lv_sub hl [0, 1, 2, 3, 4] rfl)
  exact L_3 _ 0 0 G _ _ _ (Nat.zero_le _) rfl hA hQ hB hQ2 ((gw_up_id hA).symm) (Nat.lt_succ_self _) hI (lv_sub hl [0, 1, 2, 3, 4] rfl)

abbrev rm_Ro_putX : Room := { frames := 0, cells := 0, slots := 0, locals := 0 }
set_option maxHeartbeats 4000000 in
set_option maxRecDepth 100000 in
theorem c_Ro_putX (l : Launch) {D : gw_D} {Hs : Heap} {G : gw_G} (i0 x0 : Int32) (a q n k : Nat) (hn : n < 2 ^ 31) (hA : G a = some (kx (.inr (3, [.ref q, .int (nI k), .int 1])))) (hQ : G q = some (kA D 1 n tT)) (hk : k ≤ n) : Met l y_Ro_put (Cond.code y_Ro_put b_Ro_put 3 none :: tb) rm_Ro_putX (gw_Pc D Hs G [.ref a, .int i0, .int x0]) (gw_Qv D Hs (fun G1 => G1 = G)) 0 0 (gw_A Hs) := by
  refine gw_met (by decide) (Nat.le_of_ble_eq_true rfl) ?_
  intro p e s m args below meth c M hK hr hlo hin hI ls hl
  have hx := M.1
  have hb := M.2.1
  have hl : lv_has ls 3 [(0, .ref a), (1, .int i0), (2, .int x0)] := hl
  refine lv_iload_n hx hb d_Ro_put_0 rfl (lv_at hl 1 rfl) ?_
  refine lv_if_lt (tgt := 20) hx hb d_Ro_put_1 (by decide) (fun c_1 => ?_) (fun c_1 => ?_)
  · exact gw_vret M hr hlo hI d_Ro_put_20 rfl
  · refine lv_iload_n hx hb d_Ro_put_4 rfl (lv_at hl 1 rfl) ?_
    refine lv_aload_n hx hb d_Ro_put_5 rfl (lv_at hl 0 rfl) ?_
    refine gw_get M hK hI hA i_Ro rfl 1 (by decide) f_Ro_7 rfl (Pv := fun v => v = .int (nI k)) (fun x hx => ⟨_, _, hx, rfl, rfl⟩) d_Ro_put_6 (fun v hv => ?_)
    subst hv
    refine lv_icmp_ge (tgt := 20) hx hb d_Ro_put_9 (by decide) (fun c_9 => ?_) (fun c_9 => ?_)
    · exact gw_vret M hr hlo hI d_Ro_put_20 rfl
    · obtain ⟨k2, hk2, hx2⟩ := nI_of c_1
      have hlt : k2 < n := Nat.lt_of_lt_of_le (nb_lt hx2 c_9 (by omega) hk2) hk
      refine lv_aload_n hx hb d_Ro_put_12 rfl (lv_at hl 0 rfl) ?_
      refine gw_get M hK hI hA i_Ro rfl 0 (by decide) f_Ro_17 rfl (Pv := fun v => v = .ref q) (fun x hx => ⟨_, _, hx, rfl, rfl⟩) d_Ro_put_13 (fun v hv => ?_)
      subst hv
      refine lv_iload_n hx hb d_Ro_put_16 rfl (lv_at hl 1 rfl) ?_
      refine lv_iload_n hx hb d_Ro_put_17 rfl (lv_at hl 2 rfl) ?_
      refine lv_i2b hx hb d_Ro_put_18 rfl ?_
      refine lv_topi (fun x1 e_x1 => ?_)
      refine gw_bast M hK hI hQ (nb_in hx2 hlt hn) trivial d_Ro_put_19 (fun H locs hI => ?_)
      exact gw_vret M hr hlo hI d_Ro_put_20 rfl

theorem isRw_X {q k n : Nat} (h : k ≤ n) : isRw (kx (.inr (3, [.ref q, .int (nI k), .int 1]))) q n := fun x hx => ⟨k, 1, h, hx⟩

abbrev rm_As_maskX : Room := { frames := 4, cells := 0, slots := 0, locals := 99 }
set_option maxHeartbeats 4000000 in
set_option maxRecDepth 100000 in
theorem c_As_maskX (l : Launch) {D : gw_D} {Hs : Heap} {G : gw_G} (f0 : Nat) (hf0 : f0 ≤ 16) (i0 : Int64) (b2 q2 n2 k2 : Nat) (hn2 : n2 ≤ 1000) (hk2 : k2 ≤ n2) (hA2 : G b2 = some (kx (.inr (3, [.ref q2, .int (nI k2), .int 1])))) (hQ2 : G q2 = some (kA D 1 n2 tT)) (a ci wi : Nat) (tt xt : Int32) (la : Int64) (li : Int32) (hA : G a = some (kAp ci wi tt xt la li)) (wo : Nat) (hC : G ci = some (kCi wo)) (hO : G wo = some (kA D 0 44 tT)) : Met l y_As_mask (Cond.code y_As_mask b_As_mask 11 none :: tb) rm_As_maskX (gw_Pc D Hs G [.ref a, .ref b2, .int (nI f0), .long i0]) (gw_Qv D Hs (fun G1 => G1 = G)) 0 0 (gw_A Hs) := by
  refine gw_met (by decide) (Nat.le_of_ble_eq_true rfl) ?_
  intro p e s m args below meth c M hK hr hlo hin hI ls hl
  have hx := M.1
  have hb := M.2.1
  have hl : lv_has ls 11 [(0, .ref a), (1, .ref b2), (2, .int (nI f0)), (3, .long i0)] := hl
  refine lv_iconst (v := 2) hx hb d_As_mask_0 (by decide) ?_
  refine lv_istore (lv' := [(5, .int 2), (0, .ref a), (1, .ref b2), (2, .int (nI f0)), (3, .long i0)]) hx hb d_As_mask_1 hl (by decide) rfl (fun ls hl => ?_)
  refine lv_iload_n hx hb d_As_mask_3 rfl (lv_at hl 3 rfl) ?_
  refine lv_istore (lv' := [(6, .int (nI f0)), (5, .int 2), (0, .ref a), (1, .ref b2), (2, .int (nI f0)), (3, .long i0)]) hx hb d_As_mask_4 hl (by decide) rfl (fun ls hl => ?_)
  have L_6 : ∀ (n9 : Nat) (k : Nat) (y6 : Int32) (y5 : Int32) (H : Heap) (locs : List Loc) (ls : Array Slot), k ≤ n2 + 16 → y6 = nI k → n2 + 16 - k < n9 → gw_I D Hs G s.heap H locs → lv_has ls 11 [(6, .int y6), (5, .int y5), (0, .ref a), (1, .ref b2), (2, .int (nI f0)), (3, .long i0)] → W p l e rm_As_maskX s m args below meth c H locs 0 0 (MQ below (gw_Qv D Hs (fun G1 => G1 = G)) args s 0 0 (gw_A Hs)) (F0 m 6 ls []) := by
    intro n9
    induction n9 with
    | zero =>
      intro k y6 y5 H locs ls hkn hk hm hI hl
      exact absurd hm (Nat.not_lt_zero _)
    | succ n9 ih_6 =>
      intro k y6 y5 H locs ls hkn hk hm_6 hI hl
      refine lv_iload hx hb d_As_mask_6 (lv_at hl 0 rfl) ?_
      refine lv_aload_n hx hb d_As_mask_8 rfl (lv_at hl 3 rfl) ?_
      refine gw_get M hK hI hA2 i_Ro rfl 1 (by decide) f_As_102 rfl (Pv := fun v => v = .int (nI k2)) (fun x hx => ⟨_, _, hx, rfl, rfl⟩) d_As_mask_9 (fun v hv => ?_)
      subst hv
      refine lv_icmp_ge (tgt := 123) hx hb d_As_mask_12 (by decide) (fun c_12 => ?_) (fun c_12 => ?_)
      · exact gw_vret M hr hlo hI d_As_mask_123 rfl
      · have hlt : k < n2 := Nat.lt_of_lt_of_le (nb_lt (n := k2) hk c_12 (by omega) (by omega)) hk2
        refine lv_aload_n hx hb d_As_mask_15 rfl (lv_at hl 2 rfl) ?_
        refine lv_lload_n hx hb d_As_mask_16 rfl (lv_at hl 5 rfl) ?_
        refine lv_iload hx hb d_As_mask_17 (lv_at hl 1 rfl) ?_
        refine gw_Vv (As := [.long i0, .int y5]) (rest := []) M hK hI (c_As_encryptJ l i0 y5 a ci wi tt xt la li hA wo hC hO) k_As_encryptJ m_As_107 hA (ci := 0) rfl (fun x hx => by obtain ⟨u3, u5, u6, u9, v1, v2, q9⟩ := hx; exact ⟨_, q9⟩) rfl hl.1 rfl (Nat.le_of_ble_eq_true rfl) ⟨rfl, rfl, ⟨Nat.le_of_ble_eq_true rfl, Nat.le_of_ble_eq_true rfl⟩, ⟨Nat.le_of_ble_eq_true rfl, Nat.le_of_ble_eq_true rfl⟩⟩ d_As_mask_19 (fun G9 H locs hw hI => ?_)
        rw [hw] at hI
        refine lv_iload hx hb d_As_mask_22 (lv_at hl 0 rfl) ?_
        refine lv_bipush (v := 16) hx hb d_As_mask_24 (by decide) ?_
        refine lv_iadd hx hb d_As_mask_26 ?_
        refine lv_aload_n hx hb d_As_mask_27 rfl (lv_at hl 3 rfl) ?_
        refine gw_get M hK hI hA2 i_Ro rfl 1 (by decide) f_As_102 rfl (Pv := fun v => v = .int (nI k2)) (fun x hx => ⟨_, _, hx, rfl, rfl⟩) d_As_mask_28 (fun v hv => ?_)
        subst hv
        refine va_mmin hx hb (by rw [M.2.2.1]; exact hl.1.symm) M.2.2.2.1 (M.2.2.2.2 _ m_As_111) (M.2.2.2.2 _ mm_s) (M.2.2.2.2 _ mm_z) (M.2.2.2.2 _ mm_c) (Nat.le_of_ble_eq_true rfl) (Nat.le_of_ble_eq_true rfl) (Nat.le_of_ble_eq_true rfl) (Nat.le_of_ble_eq_true rfl) d_As_mask_31 ?_
        refine lv_topi (fun x2 e_x2 => ?_)
        refine lv_istore (lv' := [(7, .int x2), (6, .int y6), (5, .int y5), (0, .ref a), (1, .ref b2), (2, .int (nI f0)), (3, .long i0)]) hx hb d_As_mask_34 hl (by decide) rfl (fun ls hl => ?_)
        obtain ⟨y7, hy7⟩ : ∃ z, z = x2 := ⟨_, rfl⟩
        rw [← hy7] at hl
        refine lv_iload hx hb d_As_mask_36 (lv_at hl 1 rfl) ?_
        refine lv_istore (lv' := [(8, .int y6), (7, .int y7), (6, .int y6), (5, .int y5), (0, .ref a), (1, .ref b2), (2, .int (nI f0)), (3, .long i0)]) hx hb d_As_mask_38 hl (by decide) rfl (fun ls hl => ?_)
        have L_40 : ∀ (n9 : Nat) (y8 : Int32) (H : Heap) (locs : List Loc) (ls : Array Slot), (y7.toInt - y8.toInt).toNat < n9 → gw_I D Hs G s.heap H locs → lv_has ls 11 [(8, .int y8), (7, .int y7), (6, .int y6), (5, .int y5), (0, .ref a), (1, .ref b2), (2, .int (nI f0)), (3, .long i0)] → W p l e rm_As_maskX s m args below meth c H locs 0 0 (MQ below (gw_Qv D Hs (fun G1 => G1 = G)) args s 0 0 (gw_A Hs)) (F0 m 40 ls []) := by
          intro n9
          induction n9 with
          | zero =>
            intro y8 H locs ls  hm hI hl
            exact absurd hm (Nat.not_lt_zero _)
          | succ n9 ih_40 =>
            intro y8 H locs ls  hm_40 hI hl
            refine lv_iload hx hb d_As_mask_40 (lv_at hl 0 rfl) ?_
            refine lv_iload hx hb d_As_mask_42 (lv_at hl 1 rfl) ?_
            refine lv_icmp_ge (tgt := 114) hx hb d_As_mask_44 (by decide) (fun c_44 => ?_) (fun c_44 => ?_)
            · obtain ⟨x3, e_x3⟩ : ∃ ww9 : Int32, ww9 = y5 + 1 := ⟨_, rfl⟩
              refine lv_iinc (v := x3) (lv' := [(5, .int x3), (8, .int y8), (7, .int y7), (6, .int y6), (0, .ref a), (1, .ref b2), (2, .int (nI f0)), (3, .long i0)]) hx hb d_As_mask_114 hl (k := 3) rfl (by rw [e_x3]; rfl) (by decide) rfl (fun ls hl => ?_)
              obtain ⟨x4, e_x4⟩ : ∃ ww9 : Int32, ww9 = y6 + 16 := ⟨_, rfl⟩
              refine lv_iinc (v := x4) (lv' := [(6, .int x4), (5, .int x3), (8, .int y8), (7, .int y7), (0, .ref a), (1, .ref b2), (2, .int (nI f0)), (3, .long i0)]) hx hb d_As_mask_117 hl (k := 3) rfl (by rw [e_x4]; rfl) (by decide) rfl (fun ls hl => ?_)
              refine lv_goto (tgt := 6) hx hb d_As_mask_120 (by decide) ?_
              exact ih_6 (k + 16) x4 x3 _ _ _ (Nat.add_le_add_right (Nat.le_of_lt hlt) 16) (by rw [e_x4, hk]; exact nI_add _ _) (mk_m hm_6 hlt) hI (lv_sub hl [0, 1, 4, 5, 6, 7] rfl)
            · refine lv_iload hx hb d_As_mask_47 (lv_at hl 0 rfl) ?_
              refine lv_iload hx hb d_As_mask_49 (lv_at hl 2 rfl) ?_
              refine lv_isub hx hb d_As_mask_51 ?_
              refine lv_bipush (v := 8) hx hb d_As_mask_52 (by decide) ?_
              have J_74 : ∀ (j74 : Int64) (H : Heap) (locs : List Loc) (ls : Array Slot), gw_I D Hs G s.heap H locs → lv_has ls 11 [(8, .int y8), (7, .int y7), (6, .int y6), (5, .int y5), (0, .ref a), (1, .ref b2), (2, .int (nI f0)), (3, .long i0)] → W p l e rm_As_maskX s m args below meth c H locs 0 0 (MQ below (gw_Qv D Hs (fun G1 => G1 = G)) args s 0 0 (gw_A Hs)) (F0 m 74 ls [.long j74]) := by
                intro j74 H locs ls  hI hl
                refine lv_lstore (lv' := [(9, .long j74), (8, .int y8), (7, .int y7), (6, .int y6), (5, .int y5), (0, .ref a), (1, .ref b2), (2, .int (nI f0)), (3, .long i0)]) hx hb d_As_mask_74 hl (by decide) rfl (fun ls hl => ?_)
                refine lv_aload_n hx hb d_As_mask_76 rfl (lv_at hl 6 rfl) ?_
                refine lv_iload hx hb d_As_mask_77 (lv_at hl 1 rfl) ?_
                refine lv_aload_n hx hb d_As_mask_79 rfl (lv_at hl 6 rfl) ?_
                refine lv_iload hx hb d_As_mask_80 (lv_at hl 1 rfl) ?_
                refine lv_i2l hx hb d_As_mask_82 rfl ?_
                refine gw_Vi (As := [.long ((y8).toInt64)]) (rest := [.int y8, .ref b2]) M hK hI (c_Ro_at l ((y8).toInt64) b2 q2 n2 (z_31 hn2) hA2 (isRw_X hk2) hQ2) k_Ro_at m_As_117 hA2 (ci := 3) rfl (fun x hx => ⟨_, hx⟩) rfl hl.1 rfl (Nat.le_of_ble_eq_true rfl) ⟨rfl, rfl, ⟨Nat.le_of_ble_eq_true rfl, Nat.le_of_ble_eq_true rfl⟩, ⟨Nat.le_of_ble_eq_true rfl, Nat.le_of_ble_eq_true rfl⟩⟩ d_As_mask_83 (fun x5 G9 H locs hw hI => ?_)
                rw [hw] at hI
                refine lv_lload hx hb d_As_mask_86 (lv_at hl 0 rfl) ?_
                refine lv_bipush (v := 56) hx hb d_As_mask_88 (by decide) ?_
                refine lv_bipush (v := 8) hx hb d_As_mask_90 (by decide) ?_
                refine lv_iload hx hb d_As_mask_92 (lv_at hl 1 rfl) ?_
                refine lv_iload hx hb d_As_mask_94 (lv_at hl 3 rfl) ?_
                refine lv_isub hx hb d_As_mask_96 ?_
                refine lv_bipush (v := 7) hx hb d_As_mask_97 (by decide) ?_
                refine lv_iand hx hb d_As_mask_99 ?_
                refine lv_imul hx hb d_As_mask_100 ?_
                refine lv_isub hx hb d_As_mask_101 ?_
                refine lv_lushr hx hb d_As_mask_102 rfl ?_
                refine lv_l2i hx hb d_As_mask_103 rfl ?_
                refine lv_ixor hx hb d_As_mask_104 ?_
                refine gw_Vv (As := [.int y8, .int (x5 ^^^ (((((j74).toUInt64 >>> ((((56 : Int32) - ((8 : Int32) * ((y8 - y6) &&& (7 : Int32))))).toInt64.toUInt64 &&& Int64.toUInt64 63)).toInt64)).toInt32))]) (rest := []) M hK hI (c_Ro_putX l y8 (x5 ^^^ (((((j74).toUInt64 >>> ((((56 : Int32) - ((8 : Int32) * ((y8 - y6) &&& (7 : Int32))))).toInt64.toUInt64 &&& Int64.toUInt64 63)).toInt64)).toInt32)) b2 q2 n2 k2 (z_31 hn2) hA2 hQ2 hk2) k_Ro_put m_As_121 hA2 (ci := 3) rfl (fun x hx => ⟨_, hx⟩) rfl hl.1 rfl (Nat.le_of_ble_eq_true rfl) ⟨rfl, rfl, ⟨Nat.le_of_ble_eq_true rfl, Nat.le_of_ble_eq_true rfl⟩, ⟨Nat.le_of_ble_eq_true rfl, Nat.le_of_ble_eq_true rfl⟩⟩ d_As_mask_105 (fun G9 H locs hw hI => ?_)
                rw [hw] at hI
                obtain ⟨x7, e_x7⟩ : ∃ ww9 : Int32, ww9 = y8 + 1 := ⟨_, rfl⟩
                refine lv_iinc (v := x7) (lv' := [(8, .int x7), (9, .long j74), (7, .int y7), (6, .int y6), (5, .int y5), (0, .ref a), (1, .ref b2), (2, .int (nI f0)), (3, .long i0)]) hx hb d_As_mask_108 hl (k := 1) rfl (by rw [e_x7]; rfl) (by decide) rfl (fun ls hl => ?_)
                refine lv_goto (tgt := 40) hx hb d_As_mask_111 (by decide) ?_
                exact ih_40 x7 _ _ _  (ml_s c_44 e_x7 hm_40) hI (lv_sub hl [0, 2, 3, 4, 5, 6, 7, 8] rfl)
              refine lv_icmp_ge (tgt := 67) hx hb d_As_mask_54 (by decide) (fun c_54 => ?_) (fun c_54 => ?_)
              · refine lv_aload_n hx hb d_As_mask_67 rfl (lv_at hl 4 rfl) ?_
                refine gw_get M hK hI hA i_As rfl 0 (by decide) f_As_10 rfl (Pv := fun v => v = .ref ci) (fun x hx => by obtain ⟨u3, u5, u6, u9, v1, v2, q9⟩ := hx; exact ⟨_, _, q9, rfl, rfl⟩) d_As_mask_68 (fun v hv => ?_)
                subst hv
                refine gw_get M hK hI hC i_Ci rfl 2 (by decide) f_As_72 rfl (Pv := fun v => ∃ x9 : Int64, v = .long x9) (fun x hx => by obtain ⟨u1, u2, q9⟩ := hx; exact ⟨_, _, q9, rfl, _, rfl⟩) d_As_mask_71 (fun v hv => ?_)
                obtain ⟨x8, rfl⟩ := hv
                exact J_74 x8 _ _ _  hI (lv_sub hl [0, 1, 2, 3, 4, 5, 6, 7] rfl)
              · refine lv_aload_n hx hb d_As_mask_57 rfl (lv_at hl 4 rfl) ?_
                refine gw_get M hK hI hA i_As rfl 0 (by decide) f_As_10 rfl (Pv := fun v => v = .ref ci) (fun x hx => by obtain ⟨u3, u5, u6, u9, v1, v2, q9⟩ := hx; exact ⟨_, _, q9, rfl, rfl⟩) d_As_mask_58 (fun v hv => ?_)
                subst hv
                refine gw_get M hK hI hC i_Ci rfl 1 (by decide) f_As_69 rfl (Pv := fun v => ∃ x9 : Int64, v = .long x9) (fun x hx => by obtain ⟨u1, u2, q9⟩ := hx; exact ⟨_, _, q9, rfl, _, rfl⟩) d_As_mask_61 (fun v hv => ?_)
                obtain ⟨x9, rfl⟩ := hv
                refine lv_goto (tgt := 74) hx hb d_As_mask_64 (by decide) ?_
                exact J_74 x9 _ _ _  hI (lv_sub hl [0, 1, 2, 3, 4, 5, 6, 7] rfl)
        exact L_40 _ y6 _ _ _  (Nat.lt_succ_self _) hI (lv_sub hl [0, 1, 2, 3, 4, 5, 6, 7] rfl)
  exact L_6 _ f0 (nI f0) 2 _ _ _ (Nat.le_trans hf0 (Nat.le_add_left _ _)) rfl (Nat.lt_succ_self _) hI (lv_sub hl [0, 1, 2, 3, 4, 5] rfl)

theorem fill_n {f : Nat} (h : f ≤ 200) : (4 : Int32) - (nI f + 2 - (nI f + 2) / 4 * 4) - ((4 : Int32) - (nI f + 2 - (nI f + 2) / 4 * 4)) / 4 * 4 = nI ((4 - (f + 2) % 4) % 4) := by
  have h1 : nI f + 2 = nI (f + 2) := nI_add f 2
  have h2 : nI (f + 2) - nI (f + 2) / 4 * 4 = nI ((f + 2) % 4) := pk_rem (d := 4) (by omega) (by decide) (by decide)
  have h3 : (4 : Int32) - nI ((f + 2) % 4) = nI (4 - (f + 2) % 4) := pk_sub (a := 4) (b := (f + 2) % 4) (by omega)
  have h4 : nI (4 - (f + 2) % 4) - nI (4 - (f + 2) % 4) / 4 * 4 = nI ((4 - (f + 2) % 4) % 4) := pk_rem (d := 4) (by omega) (by decide) (by decide)
  rw [h1, h2, h3, h4]

abbrev rm_Gp_writePlainX : Room := { frames := 2, cells := 0, slots := 0, locals := 46 }
set_option maxHeartbeats 4000000 in
set_option maxRecDepth 100000 in
theorem c_Gp_writePlainX (l : Launch) {D : gw_D} {Hs : Heap} {G : gw_G} (A : Nat → Nat → Nat) (pm : Nat → Nat) (cnt fd : Nat) (tt xt li : Nat → Int32) (la : Nat → Int64) (hC : cls D G A pm cnt fd tt xt li la) (i : Nat) (hi : i < 16) (n2 : Int32) : Met l y_Gp_writePlain (Cond.code y_Gp_writePlain b_Gp_writePlain 5 none :: tb) rm_Gp_writePlainX (gw_Pc D Hs G [.ref (A 0 0), .ref (A 12 i), .int n2]) (gw_Qv D Hs (fun G1 => G1 = gw_up G (A 3 0) (kx (.inr (3, [.ref (A 9 0), .int (nI (18 + fd + (4 - (fd + 2) % 4) % 4)), .int 1]))))) 0 0 (gw_A Hs) := by
  refine gw_met (by decide) (Nat.le_of_ble_eq_true rfl) ?_
  intro p e s m args below meth c M hK hr hlo hin hI ls hl
  have hx := M.1
  have hb := M.2.1
  have hl : lv_has ls 5 [(0, .ref (A 0 0)), (1, .ref (A 12 i)), (2, .int n2)] := hl
  have hI0 := hI
  have hf200 := hC.f200
  refine lv_aload_n hx hb d_Gp_writePlain_0 rfl (lv_at hl 0 rfl) ?_
  refine gw_get M hK hI hC.O i_Gp rfl 3 (by decide) f_Gp_28 rfl (Pv := fun v => v = .ref (A 3 0)) (fun x hx => ⟨_, _, hx, rfl, rfl⟩) d_Gp_writePlain_1 (fun v hv => ?_)
  subst hv
  refine gw_Vv (As := []) (rest := []) M hK hI (c_Ro_clearX l (A 3 0) (A 9 0) 236 (by decide) hC.sent hC.sq) k_Ro_clear m_Gp_208 hC.sent (ci := 3) rfl (fun x hx => by obtain ⟨u1, u2, h_u1, h_u2, q9⟩ := hx; exact ⟨_, q9⟩) rfl hl.1 rfl (Nat.le_of_ble_eq_true rfl) ⟨rfl, rfl, ⟨Nat.le_of_ble_eq_true rfl, Nat.le_of_ble_eq_true rfl⟩, ⟨Nat.le_of_ble_eq_true rfl, Nat.le_of_ble_eq_true rfl⟩⟩ d_Gp_writePlain_4 (fun G1 H locs hw hI => ?_)
  have hE_G1 : gw_up G (A 3 0) (kx (.inr (3, [.ref (A 9 0), .int (nI 0), .int 1]))) = G1 := hw.symm
  have hG3 : G1 (A 3 0) = some (kx (.inr (3, [.ref (A 9 0), .int (nI 0), .int 1]))) := by rw [← hE_G1]; exact gw_up_s
  have hs2 : gw_fr (fun b => b = (A 3 0)) G G1 := by rw [← hE_G1]; exact gw_fr.up rfl
  refine lv_aload_n hx hb d_Gp_writePlain_7 rfl (lv_at hl 0 rfl) ?_
  have hG4 : G1 (A 0 0) = some (kx (.inr (5, [.ref (A 1 0), .int (nI cnt), .ref (A 2 0), .ref (A 3 0), .ref (A 4 0), .ref (A 5 0), .ref (A 6 0), .ref (A 7 0)]))) := (hs2 (A 0 0) _ hC.O (gw_nec (u := 5) (v := 3) hI0 hC.O hC.sent (fun x hx => (congrArg gt (show x = _ from hx)).trans rfl) (fun x hx => by obtain ⟨u1, u2, h_u1, h_u2, q9⟩ := hx; rw [q9]; rfl) (by decide)))
  refine gw_get M hK hI hG4 i_Gp rfl 3 (by decide) f_Gp_28 rfl (Pv := fun v => v = .ref (A 3 0)) (fun x hx => ⟨_, _, hx, rfl, rfl⟩) d_Gp_writePlain_8 (fun v hv => ?_)
  subst hv
  refine lv_aload_n hx hb d_Gp_writePlain_11 rfl (lv_at hl 1 rfl) ?_
  have hG5 : G1 (A 12 i) = some (kAp (A 13 i) (A 15 i) (tt i) (xt i) (la i) (li i)) := (hs2 (A 12 i) _ (hC.as hi) (gw_nec (u := 0) (v := 3) hI0 (hC.as hi) hC.sent (fun x hx => by obtain ⟨u3, u5, u6, u9, v1, v2, q9⟩ := hx; rw [q9]; rfl) (fun x hx => by obtain ⟨u1, u2, h_u1, h_u2, q9⟩ := hx; rw [q9]; rfl) (by decide)))
  refine gw_get M hK hI hG5 i_As rfl 2 (by decide) f_Gp_202 rfl (Pv := fun v => v = .int (tt i)) (fun x hx => by obtain ⟨u3, u5, u6, u9, v1, v2, q9⟩ := hx; exact ⟨_, _, q9, rfl, rfl⟩) d_Gp_writePlain_12 (fun v hv => ?_)
  subst hv
  refine lv_i2l hx hb d_Gp_writePlain_15 rfl ?_
  refine lv_iconst (v := 4) hx hb d_Gp_writePlain_16 (by decide) ?_
  have hG6 : G1 (A 9 0) = some (kA D 1 236 tT) := (hs2 (A 9 0) _ hC.sq (gw_nec (u := 100) (v := 3) hI0 hC.sq hC.sent (fun x hx => by obtain ⟨f9, h9, q9⟩ := hx; rw [q9]; rfl) (fun x hx => by obtain ⟨u1, u2, h_u1, h_u2, q9⟩ := hx; rw [q9]; rfl) (by decide)))
  refine gw_Vv (As := [.long (((tt i)).toInt64), .int 4]) (rest := []) M hK hI (c_Ro_appendNumberX l (((tt i)).toInt64) 4 (by decide) (A 3 0) (A 9 0) 236 0 (by decide) hG3 hG6 (by omega)) k_Ro_appendNumber m_Gp_118 hG3 (ci := 3) rfl (fun x hx => ⟨_, hx⟩) rfl hl.1 rfl (Nat.le_of_ble_eq_true rfl) ⟨rfl, rfl, ⟨Nat.le_of_ble_eq_true rfl, Nat.le_of_ble_eq_true rfl⟩, ⟨Nat.le_of_ble_eq_true rfl, Nat.le_of_ble_eq_true rfl⟩⟩ d_Gp_writePlain_17 (fun G7 H locs hw hI => ?_)
  have hE_G7 : gw_up G1 (A 3 0) (kx (.inr (3, [.ref (A 9 0), .int (nI (0 + 4)), .int 1]))) = G7 := hw.symm
  have hG9 : G7 (A 3 0) = some (kx (.inr (3, [.ref (A 9 0), .int (nI (0 + 4)), .int 1]))) := by rw [← hE_G7]; exact gw_up_s
  have hs8 : gw_fr (fun b => b = (A 3 0)) G1 G7 := by rw [← hE_G7]; exact gw_fr.up rfl
  refine lv_aload_n hx hb d_Gp_writePlain_20 rfl (lv_at hl 0 rfl) ?_
  have hG10 : G7 (A 0 0) = some (kx (.inr (5, [.ref (A 1 0), .int (nI cnt), .ref (A 2 0), .ref (A 3 0), .ref (A 4 0), .ref (A 5 0), .ref (A 6 0), .ref (A 7 0)]))) := (hs8 (A 0 0) _ hG4 (gw_nec (u := 5) (v := 3) hI0 hC.O hC.sent (fun x hx => (congrArg gt (show x = _ from hx)).trans rfl) (fun x hx => by obtain ⟨u1, u2, h_u1, h_u2, q9⟩ := hx; rw [q9]; rfl) (by decide)))
  refine gw_get M hK hI hG10 i_Gp rfl 3 (by decide) f_Gp_28 rfl (Pv := fun v => v = .ref (A 3 0)) (fun x hx => ⟨_, _, hx, rfl, rfl⟩) d_Gp_writePlain_21 (fun v hv => ?_)
  subst hv
  refine lv_aload_n hx hb d_Gp_writePlain_24 rfl (lv_at hl 1 rfl) ?_
  have hG11 : G7 (A 12 i) = some (kAp (A 13 i) (A 15 i) (tt i) (xt i) (la i) (li i)) := (hs8 (A 12 i) _ hG5 (gw_nec (u := 0) (v := 3) hI0 (hC.as hi) hC.sent (fun x hx => by obtain ⟨u3, u5, u6, u9, v1, v2, q9⟩ := hx; rw [q9]; rfl) (fun x hx => by obtain ⟨u1, u2, h_u1, h_u2, q9⟩ := hx; rw [q9]; rfl) (by decide)))
  refine gw_get M hK hI hG11 i_As rfl 7 (by decide) f_Gp_76 rfl (Pv := fun v => v = .long (la i)) (fun x hx => by obtain ⟨u3, u5, u6, u9, v1, v2, q9⟩ := hx; exact ⟨_, _, q9, rfl, rfl⟩) d_Gp_writePlain_25 (fun v hv => ?_)
  subst hv
  refine lv_iconst (v := 4) hx hb d_Gp_writePlain_28 (by decide) ?_
  have hG12 : G7 (A 9 0) = some (kA D 1 236 tT) := (hs8 (A 9 0) _ hG6 (gw_nec (u := 100) (v := 3) hI0 hC.sq hC.sent (fun x hx => by obtain ⟨f9, h9, q9⟩ := hx; rw [q9]; rfl) (fun x hx => by obtain ⟨u1, u2, h_u1, h_u2, q9⟩ := hx; rw [q9]; rfl) (by decide)))
  refine gw_Vv (As := [.long (la i), .int 4]) (rest := []) M hK hI (c_Ro_appendNumberX l (la i) 4 (by decide) (A 3 0) (A 9 0) 236 (0 + 4) (by decide) hG9 hG12 (by omega)) k_Ro_appendNumber m_Gp_118 hG9 (ci := 3) rfl (fun x hx => ⟨_, hx⟩) rfl hl.1 rfl (Nat.le_of_ble_eq_true rfl) ⟨rfl, rfl, ⟨Nat.le_of_ble_eq_true rfl, Nat.le_of_ble_eq_true rfl⟩, ⟨Nat.le_of_ble_eq_true rfl, Nat.le_of_ble_eq_true rfl⟩⟩ d_Gp_writePlain_29 (fun G13 H locs hw hI => ?_)
  have hE_G13 : gw_up G7 (A 3 0) (kx (.inr (3, [.ref (A 9 0), .int (nI (0 + 4 + 4)), .int 1]))) = G13 := hw.symm
  have hG15 : G13 (A 3 0) = some (kx (.inr (3, [.ref (A 9 0), .int (nI (0 + 4 + 4)), .int 1]))) := by rw [← hE_G13]; exact gw_up_s
  have hs14 : gw_fr (fun b => b = (A 3 0)) G7 G13 := by rw [← hE_G13]; exact gw_fr.up rfl
  refine lv_aload_n hx hb d_Gp_writePlain_32 rfl (lv_at hl 0 rfl) ?_
  have hG16 : G13 (A 0 0) = some (kx (.inr (5, [.ref (A 1 0), .int (nI cnt), .ref (A 2 0), .ref (A 3 0), .ref (A 4 0), .ref (A 5 0), .ref (A 6 0), .ref (A 7 0)]))) := (hs14 (A 0 0) _ hG10 (gw_nec (u := 5) (v := 3) hI0 hC.O hC.sent (fun x hx => (congrArg gt (show x = _ from hx)).trans rfl) (fun x hx => by obtain ⟨u1, u2, h_u1, h_u2, q9⟩ := hx; rw [q9]; rfl) (by decide)))
  refine gw_get M hK hI hG16 i_Gp rfl 3 (by decide) f_Gp_28 rfl (Pv := fun v => v = .ref (A 3 0)) (fun x hx => ⟨_, _, hx, rfl, rfl⟩) d_Gp_writePlain_33 (fun v hv => ?_)
  subst hv
  refine lv_aload_n hx hb d_Gp_writePlain_36 rfl (lv_at hl 1 rfl) ?_
  have hG17 : G13 (A 12 i) = some (kAp (A 13 i) (A 15 i) (tt i) (xt i) (la i) (li i)) := (hs14 (A 12 i) _ hG11 (gw_nec (u := 0) (v := 3) hI0 (hC.as hi) hC.sent (fun x hx => by obtain ⟨u3, u5, u6, u9, v1, v2, q9⟩ := hx; rw [q9]; rfl) (fun x hx => by obtain ⟨u1, u2, h_u1, h_u2, q9⟩ := hx; rw [q9]; rfl) (by decide)))
  refine gw_get M hK hI hG17 i_As rfl 7 (by decide) f_Gp_76 rfl (Pv := fun v => v = .long (la i)) (fun x hx => by obtain ⟨u3, u5, u6, u9, v1, v2, q9⟩ := hx; exact ⟨_, _, q9, rfl, rfl⟩) d_Gp_writePlain_37 (fun v hv => ?_)
  subst hv
  refine lv_bipush (v := 8) hx hb d_Gp_writePlain_40 (by decide) ?_
  have hG18 : G13 (A 9 0) = some (kA D 1 236 tT) := (hs14 (A 9 0) _ hG12 (gw_nec (u := 100) (v := 3) hI0 hC.sq hC.sent (fun x hx => by obtain ⟨f9, h9, q9⟩ := hx; rw [q9]; rfl) (fun x hx => by obtain ⟨u1, u2, h_u1, h_u2, q9⟩ := hx; rw [q9]; rfl) (by decide)))
  refine gw_Vv (As := [.long (la i), .int 8]) (rest := []) M hK hI (c_Ro_appendNumberX l (la i) 8 (by decide) (A 3 0) (A 9 0) 236 (0 + 4 + 4) (by decide) hG15 hG18 (by omega)) k_Ro_appendNumber m_Gp_118 hG15 (ci := 3) rfl (fun x hx => ⟨_, hx⟩) rfl hl.1 rfl (Nat.le_of_ble_eq_true rfl) ⟨rfl, rfl, ⟨Nat.le_of_ble_eq_true rfl, Nat.le_of_ble_eq_true rfl⟩, ⟨Nat.le_of_ble_eq_true rfl, Nat.le_of_ble_eq_true rfl⟩⟩ d_Gp_writePlain_42 (fun G19 H locs hw hI => ?_)
  have hE_G19 : gw_up G13 (A 3 0) (kx (.inr (3, [.ref (A 9 0), .int (nI (0 + 4 + 4 + 8)), .int 1]))) = G19 := hw.symm
  have hG21 : G19 (A 3 0) = some (kx (.inr (3, [.ref (A 9 0), .int (nI (0 + 4 + 4 + 8)), .int 1]))) := by rw [← hE_G19]; exact gw_up_s
  have hs20 : gw_fr (fun b => b = (A 3 0)) G13 G19 := by rw [← hE_G19]; exact gw_fr.up rfl
  refine lv_aload_n hx hb d_Gp_writePlain_45 rfl (lv_at hl 0 rfl) ?_
  have hG22 : G19 (A 0 0) = some (kx (.inr (5, [.ref (A 1 0), .int (nI cnt), .ref (A 2 0), .ref (A 3 0), .ref (A 4 0), .ref (A 5 0), .ref (A 6 0), .ref (A 7 0)]))) := (hs20 (A 0 0) _ hG16 (gw_nec (u := 5) (v := 3) hI0 hC.O hC.sent (fun x hx => (congrArg gt (show x = _ from hx)).trans rfl) (fun x hx => by obtain ⟨u1, u2, h_u1, h_u2, q9⟩ := hx; rw [q9]; rfl) (by decide)))
  refine gw_get M hK hI hG22 i_Gp rfl 3 (by decide) f_Gp_28 rfl (Pv := fun v => v = .ref (A 3 0)) (fun x hx => ⟨_, _, hx, rfl, rfl⟩) d_Gp_writePlain_46 (fun v hv => ?_)
  subst hv
  refine lv_aload_n hx hb d_Gp_writePlain_49 rfl (lv_at hl 0 rfl) ?_
  refine gw_get M hK hI hG22 i_Gp rfl 2 (by decide) f_Gp_24 rfl (Pv := fun v => v = .ref (A 2 0)) (fun x hx => ⟨_, _, hx, rfl, rfl⟩) d_Gp_writePlain_50 (fun v hv => ?_)
  subst hv
  refine lv_iconst (v := 0) hx hb d_Gp_writePlain_53 (by decide) ?_
  refine lv_aload_n hx hb d_Gp_writePlain_54 rfl (lv_at hl 0 rfl) ?_
  refine gw_get M hK hI hG22 i_Gp rfl 2 (by decide) f_Gp_24 rfl (Pv := fun v => v = .ref (A 2 0)) (fun x hx => ⟨_, _, hx, rfl, rfl⟩) d_Gp_writePlain_55 (fun v hv => ?_)
  subst hv
  have hG23 : G19 (A 2 0) = some (kx (.inr (3, [.ref (A 8 0), .int (nI fd), .int 0]))) := (hs20 (A 2 0) _ (hs14 (A 2 0) _ (hs8 (A 2 0) _ (hs2 (A 2 0) _ hC.fed hC.ap.2.1) hC.ap.2.1) hC.ap.2.1) hC.ap.2.1)
  refine gw_get M hK hI hG23 i_Ro rfl 1 (by decide) f_Gp_87 rfl (Pv := fun v => v = .int (nI fd)) (fun x hx => ⟨_, _, hx, rfl, rfl⟩) d_Gp_writePlain_58 (fun v hv => ?_)
  subst hv
  have hG24 : G19 (A 8 0) = some (kA D 1 200 tT) := (hs20 (A 8 0) _ (hs14 (A 8 0) _ (hs8 (A 8 0) _ (hs2 (A 8 0) _ hC.fq (gw_nec (u := 100) (v := 3) hI0 hC.fq hC.sent (fun x hx => by obtain ⟨f9, h9, q9⟩ := hx; rw [q9]; rfl) (fun x hx => by obtain ⟨u1, u2, h_u1, h_u2, q9⟩ := hx; rw [q9]; rfl) (by decide))) (gw_nec (u := 100) (v := 3) hI0 hC.fq hC.sent (fun x hx => by obtain ⟨f9, h9, q9⟩ := hx; rw [q9]; rfl) (fun x hx => by obtain ⟨u1, u2, h_u1, h_u2, q9⟩ := hx; rw [q9]; rfl) (by decide))) (gw_nec (u := 100) (v := 3) hI0 hC.fq hC.sent (fun x hx => by obtain ⟨f9, h9, q9⟩ := hx; rw [q9]; rfl) (fun x hx => by obtain ⟨u1, u2, h_u1, h_u2, q9⟩ := hx; rw [q9]; rfl) (by decide))) (gw_nec (u := 100) (v := 3) hI0 hC.fq hC.sent (fun x hx => by obtain ⟨f9, h9, q9⟩ := hx; rw [q9]; rfl) (fun x hx => by obtain ⟨u1, u2, h_u1, h_u2, q9⟩ := hx; rw [q9]; rfl) (by decide)))
  have hG25 : G19 (A 9 0) = some (kA D 1 236 tT) := (hs20 (A 9 0) _ hG18 (gw_nec (u := 100) (v := 3) hI0 hC.sq hC.sent (fun x hx => by obtain ⟨f9, h9, q9⟩ := hx; rw [q9]; rfl) (fun x hx => by obtain ⟨u1, u2, h_u1, h_u2, q9⟩ := hx; rw [q9]; rfl) (by decide)))
  refine gw_Vv (As := [.ref (A 2 0), .int 0, .int (nI fd)]) (rest := []) M hK hI (c_Ro_appendRowX l (A 3 0) (A 9 0) 236 (0 + 4 + 4 + 8) (by decide) hG21 hG25 (A 2 0) (A 8 0) 200 fd (by decide) hG23 (isRw_Fe hC.f200) hG24 hC.ap.2.1 (gw_nec (u := 100) (v := 3) hI0 hC.fq hC.sent (fun x hx => by obtain ⟨f9, h9, q9⟩ := hx; rw [q9]; rfl) (fun x hx => by obtain ⟨u1, u2, h_u1, h_u2, q9⟩ := hx; rw [q9]; rfl) (by decide)) (by omega)) k_Ro_appendRow m_Gp_211 hG21 (ci := 3) rfl (fun x hx => ⟨_, hx⟩) rfl hl.1 rfl (Nat.le_of_ble_eq_true rfl) ⟨rfl, rfl, ⟨Nat.le_of_ble_eq_true rfl, Nat.le_of_ble_eq_true rfl⟩, ⟨Nat.le_of_ble_eq_true rfl, Nat.le_of_ble_eq_true rfl⟩⟩ d_Gp_writePlain_61 (fun G26 H locs hw hI => ?_)
  have hE_G26 : gw_up G19 (A 3 0) (kx (.inr (3, [.ref (A 9 0), .int (nI (0 + 4 + 4 + 8 + fd)), .int 1]))) = G26 := hw.symm
  have hG28 : G26 (A 3 0) = some (kx (.inr (3, [.ref (A 9 0), .int (nI (0 + 4 + 4 + 8 + fd)), .int 1]))) := by rw [← hE_G26]; exact gw_up_s
  have hs27 : gw_fr (fun b => b = (A 3 0)) G19 G26 := by rw [← hE_G26]; exact gw_fr.up rfl
  refine lv_iconst (v := 4) hx hb d_Gp_writePlain_64 (by decide) ?_
  refine lv_aload_n hx hb d_Gp_writePlain_65 rfl (lv_at hl 0 rfl) ?_
  have hG29 : G26 (A 0 0) = some (kx (.inr (5, [.ref (A 1 0), .int (nI cnt), .ref (A 2 0), .ref (A 3 0), .ref (A 4 0), .ref (A 5 0), .ref (A 6 0), .ref (A 7 0)]))) := (hs27 (A 0 0) _ hG22 (gw_nec (u := 5) (v := 3) hI0 hC.O hC.sent (fun x hx => (congrArg gt (show x = _ from hx)).trans rfl) (fun x hx => by obtain ⟨u1, u2, h_u1, h_u2, q9⟩ := hx; rw [q9]; rfl) (by decide)))
  refine gw_get M hK hI hG29 i_Gp rfl 2 (by decide) f_Gp_24 rfl (Pv := fun v => v = .ref (A 2 0)) (fun x hx => ⟨_, _, hx, rfl, rfl⟩) d_Gp_writePlain_66 (fun v hv => ?_)
  subst hv
  have hG30 : G26 (A 2 0) = some (kx (.inr (3, [.ref (A 8 0), .int (nI fd), .int 0]))) := (hs27 (A 2 0) _ hG23 hC.ap.2.1)
  refine gw_get M hK hI hG30 i_Ro rfl 1 (by decide) f_Gp_87 rfl (Pv := fun v => v = .int (nI fd)) (fun x hx => ⟨_, _, hx, rfl, rfl⟩) d_Gp_writePlain_69 (fun v hv => ?_)
  subst hv
  refine lv_iconst (v := 2) hx hb d_Gp_writePlain_72 (by decide) ?_
  refine lv_iadd hx hb d_Gp_writePlain_73 ?_
  refine lv_iconst (v := 4) hx hb d_Gp_writePlain_74 (by decide) ?_
  refine lv_irem hx hb d_Gp_writePlain_75 (by decide) ?_
  refine lv_isub hx hb d_Gp_writePlain_76 ?_
  refine lv_iconst (v := 4) hx hb d_Gp_writePlain_77 (by decide) ?_
  refine lv_irem hx hb d_Gp_writePlain_78 (by decide) ?_
  refine lv_topi (fun x31 e_x31 => ?_)
  refine lv_istore_n (lv' := [(3, .int x31), (0, .ref (A 0 0)), (1, .ref (A 12 i)), (2, .int n2)]) hx hb d_Gp_writePlain_79 rfl hl (by decide) rfl (fun ls hl => ?_)
  have hy3 : x31 = nI ((4 - (fd + 2) % 4) % 4) := by rw [e_x31]; exact fill_n hf200
  obtain ⟨y3, hy3b⟩ : ∃ z, z = x31 := ⟨_, rfl⟩
  rw [← hy3b] at hl hy3
  refine lv_iconst (v := 1) hx hb d_Gp_writePlain_80 (by decide) ?_
  refine lv_istore (lv' := [(4, .int 1), (3, .int y3), (0, .ref (A 0 0)), (1, .ref (A 12 i)), (2, .int n2)]) hx hb d_Gp_writePlain_81 hl (by decide) rfl (fun ls hl => ?_)
  have L_83 : ∀ (n9 : Nat) (j : Nat) (y4 : Int32) (Gk : gw_G) (H : Heap) (locs : List Loc) (ls : Array Slot), j ≤ (4 - (fd + 2) % 4) % 4 → y4 = nI (j + 1) → Gk = gw_up G (A 3 0) (kx (.inr (3, [.ref (A 9 0), .int (nI (16 + fd + j)), .int 1]))) → (4 - (fd + 2) % 4) % 4 - j < n9 → gw_I D Hs Gk s.heap H locs → lv_has ls 5 [(4, .int y4), (3, .int y3), (0, .ref (A 0 0)), (1, .ref (A 12 i)), (2, .int n2)] → W p l e rm_Gp_writePlainX s m args below meth c H locs 0 0 (MQ below (gw_Qv D Hs (fun G1 => G1 = gw_up G (A 3 0) (kx (.inr (3, [.ref (A 9 0), .int (nI (18 + fd + (4 - (fd + 2) % 4) % 4)), .int 1]))))) args s 0 0 (gw_A Hs)) (F0 m 83 ls []) := by
    intro n9
    induction n9 with
    | zero =>
      intro j y4 Gk H locs ls bj hj hGe hm hI hl
      exact absurd hm (Nat.not_lt_zero _)
    | succ n9 ih_83 =>
      intro j y4 Gk H locs ls bj hj hGe hm_83 hI hl
      have hsk : gw_fr (fun b => b = (A 3 0)) G Gk := by rw [hGe]; exact gw_fr.up rfl
      have hSk : Gk (A 3 0) = some (kx (.inr (3, [.ref (A 9 0), .int (nI (16 + fd + j)), .int 1]))) := by rw [hGe]; exact gw_up_s
      refine lv_iload hx hb d_Gp_writePlain_83 (lv_at hl 0 rfl) ?_
      refine lv_iload_n hx hb d_Gp_writePlain_85 rfl (lv_at hl 1 rfl) ?_
      refine lv_icmp_gt (tgt := 104) hx hb d_Gp_writePlain_86 (by decide) (fun c_86 => ?_) (fun c_86 => ?_)
      · have hj0 : j = (4 - (fd + 2) % 4) % 4 := by have h9 := nb_gt (n := (4 - (fd + 2) % 4) % 4) hj (by rw [← hy3]; exact c_86) (by omega) (by omega); omega
        refine lv_aload_n hx hb d_Gp_writePlain_104 rfl (lv_at hl 2 rfl) ?_
        have hG32 : Gk (A 0 0) = some (kx (.inr (5, [.ref (A 1 0), .int (nI cnt), .ref (A 2 0), .ref (A 3 0), .ref (A 4 0), .ref (A 5 0), .ref (A 6 0), .ref (A 7 0)]))) := (hsk (A 0 0) _ hC.O (gw_nec (u := 5) (v := 3) hI0 hC.O hC.sent (fun x hx => (congrArg gt (show x = _ from hx)).trans rfl) (fun x hx => by obtain ⟨u1, u2, h_u1, h_u2, q9⟩ := hx; rw [q9]; rfl) (by decide)))
        refine gw_get M hK hI hG32 i_Gp rfl 3 (by decide) f_Gp_28 rfl (Pv := fun v => v = .ref (A 3 0)) (fun x hx => ⟨_, _, hx, rfl, rfl⟩) d_Gp_writePlain_105 (fun v hv => ?_)
        subst hv
        refine lv_iload_n hx hb d_Gp_writePlain_108 rfl (lv_at hl 1 rfl) ?_
        have hG33 : Gk (A 9 0) = some (kA D 1 236 tT) := (hsk (A 9 0) _ hC.sq (gw_nec (u := 100) (v := 3) hI0 hC.sq hC.sent (fun x hx => by obtain ⟨f9, h9, q9⟩ := hx; rw [q9]; rfl) (fun x hx => by obtain ⟨u1, u2, h_u1, h_u2, q9⟩ := hx; rw [q9]; rfl) (by decide)))
        refine gw_Vv (As := [.int y3]) (rest := []) M hK hI (c_Ro_appendX l y3 (A 3 0) (A 9 0) 236 (16 + fd + j) (by decide) hSk hG33 (by omega)) k_Ro_append m_Gp_90 hSk (ci := 3) rfl (fun x hx => ⟨_, hx⟩) rfl hl.1 rfl (Nat.le_of_ble_eq_true rfl) ⟨rfl, rfl, ⟨Nat.le_of_ble_eq_true rfl, Nat.le_of_ble_eq_true rfl⟩, ⟨Nat.le_of_ble_eq_true rfl, Nat.le_of_ble_eq_true rfl⟩⟩ d_Gp_writePlain_109 (fun G34 H locs hw hI => ?_)
        have hE_G34 : gw_up Gk (A 3 0) (kx (.inr (3, [.ref (A 9 0), .int (nI (16 + fd + j + 1)), .int 1]))) = G34 := hw.symm
        have hG36 : G34 (A 3 0) = some (kx (.inr (3, [.ref (A 9 0), .int (nI (16 + fd + j + 1)), .int 1]))) := by rw [← hE_G34]; exact gw_up_s
        have hs35 : gw_fr (fun b => b = (A 3 0)) Gk G34 := by rw [← hE_G34]; exact gw_fr.up rfl
        refine lv_aload_n hx hb d_Gp_writePlain_112 rfl (lv_at hl 2 rfl) ?_
        have hG37 : G34 (A 0 0) = some (kx (.inr (5, [.ref (A 1 0), .int (nI cnt), .ref (A 2 0), .ref (A 3 0), .ref (A 4 0), .ref (A 5 0), .ref (A 6 0), .ref (A 7 0)]))) := (hs35 (A 0 0) _ hG32 (gw_nec (u := 5) (v := 3) hI0 hC.O hC.sent (fun x hx => (congrArg gt (show x = _ from hx)).trans rfl) (fun x hx => by obtain ⟨u1, u2, h_u1, h_u2, q9⟩ := hx; rw [q9]; rfl) (by decide)))
        refine gw_get M hK hI hG37 i_Gp rfl 3 (by decide) f_Gp_28 rfl (Pv := fun v => v = .ref (A 3 0)) (fun x hx => ⟨_, _, hx, rfl, rfl⟩) d_Gp_writePlain_113 (fun v hv => ?_)
        subst hv
        refine lv_iload_n hx hb d_Gp_writePlain_116 rfl (lv_at hl 4 rfl) ?_
        have hG38 : G34 (A 9 0) = some (kA D 1 236 tT) := (hs35 (A 9 0) _ hG33 (gw_nec (u := 100) (v := 3) hI0 hC.sq hC.sent (fun x hx => by obtain ⟨f9, h9, q9⟩ := hx; rw [q9]; rfl) (fun x hx => by obtain ⟨u1, u2, h_u1, h_u2, q9⟩ := hx; rw [q9]; rfl) (by decide)))
        refine gw_Vv (As := [.int n2]) (rest := []) M hK hI (c_Ro_appendX l n2 (A 3 0) (A 9 0) 236 (16 + fd + j + 1) (by decide) hG36 hG38 (by omega)) k_Ro_append m_Gp_90 hG36 (ci := 3) rfl (fun x hx => ⟨_, hx⟩) rfl hl.1 rfl (Nat.le_of_ble_eq_true rfl) ⟨rfl, rfl, ⟨Nat.le_of_ble_eq_true rfl, Nat.le_of_ble_eq_true rfl⟩, ⟨Nat.le_of_ble_eq_true rfl, Nat.le_of_ble_eq_true rfl⟩⟩ d_Gp_writePlain_117 (fun G39 H locs hw hI => ?_)
        have hE_G39 : gw_up G34 (A 3 0) (kx (.inr (3, [.ref (A 9 0), .int (nI (16 + fd + j + 1 + 1)), .int 1]))) = G39 := hw.symm
        have hG41 : G39 (A 3 0) = some (kx (.inr (3, [.ref (A 9 0), .int (nI (16 + fd + j + 1 + 1)), .int 1]))) := by rw [← hE_G39]; exact gw_up_s
        have hs40 : gw_fr (fun b => b = (A 3 0)) G34 G39 := by rw [← hE_G39]; exact gw_fr.up rfl
        exact gw_vret M hr hlo hI d_Gp_writePlain_120 (by rw [← hE_G39, ← hE_G34, hGe]; simp only [gw_up_up]; rw [show 16 + fd + j + 1 + 1 = 18 + fd + (4 - (fd + 2) % 4) % 4 from by omega])
      · have lj : j < (4 - (fd + 2) % 4) % 4 := by have h9 := nb_le (n := (4 - (fd + 2) % 4) % 4) hj (by rw [← hy3]; exact c_86) (by omega) (by omega); omega
        refine lv_aload_n hx hb d_Gp_writePlain_89 rfl (lv_at hl 2 rfl) ?_
        have hG42 : Gk (A 0 0) = some (kx (.inr (5, [.ref (A 1 0), .int (nI cnt), .ref (A 2 0), .ref (A 3 0), .ref (A 4 0), .ref (A 5 0), .ref (A 6 0), .ref (A 7 0)]))) := (hsk (A 0 0) _ hC.O (gw_nec (u := 5) (v := 3) hI0 hC.O hC.sent (fun x hx => (congrArg gt (show x = _ from hx)).trans rfl) (fun x hx => by obtain ⟨u1, u2, h_u1, h_u2, q9⟩ := hx; rw [q9]; rfl) (by decide)))
        refine gw_get M hK hI hG42 i_Gp rfl 3 (by decide) f_Gp_28 rfl (Pv := fun v => v = .ref (A 3 0)) (fun x hx => ⟨_, _, hx, rfl, rfl⟩) d_Gp_writePlain_90 (fun v hv => ?_)
        subst hv
        refine lv_iload hx hb d_Gp_writePlain_93 (lv_at hl 0 rfl) ?_
        have hG43 : Gk (A 9 0) = some (kA D 1 236 tT) := (hsk (A 9 0) _ hC.sq (gw_nec (u := 100) (v := 3) hI0 hC.sq hC.sent (fun x hx => by obtain ⟨f9, h9, q9⟩ := hx; rw [q9]; rfl) (fun x hx => by obtain ⟨u1, u2, h_u1, h_u2, q9⟩ := hx; rw [q9]; rfl) (by decide)))
        refine gw_Vv (As := [.int y4]) (rest := []) M hK hI (c_Ro_appendX l y4 (A 3 0) (A 9 0) 236 (16 + fd + j) (by decide) hSk hG43 (by omega)) k_Ro_append m_Gp_90 hSk (ci := 3) rfl (fun x hx => ⟨_, hx⟩) rfl hl.1 rfl (Nat.le_of_ble_eq_true rfl) ⟨rfl, rfl, ⟨Nat.le_of_ble_eq_true rfl, Nat.le_of_ble_eq_true rfl⟩, ⟨Nat.le_of_ble_eq_true rfl, Nat.le_of_ble_eq_true rfl⟩⟩ d_Gp_writePlain_95 (fun G44 H locs hw hI => ?_)
        have hE_G44 : gw_up Gk (A 3 0) (kx (.inr (3, [.ref (A 9 0), .int (nI (16 + fd + j + 1)), .int 1]))) = G44 := hw.symm
        have hG46 : G44 (A 3 0) = some (kx (.inr (3, [.ref (A 9 0), .int (nI (16 + fd + j + 1)), .int 1]))) := by rw [← hE_G44]; exact gw_up_s
        have hs45 : gw_fr (fun b => b = (A 3 0)) Gk G44 := by rw [← hE_G44]; exact gw_fr.up rfl
        obtain ⟨x47, e_x47⟩ : ∃ ww9 : Int32, ww9 = y4 + 1 := ⟨_, rfl⟩
        refine lv_iinc (v := x47) (lv' := [(4, .int x47), (3, .int y3), (0, .ref (A 0 0)), (1, .ref (A 12 i)), (2, .int n2)]) hx hb d_Gp_writePlain_98 hl (k := 0) rfl (by rw [e_x47]; rfl) (by decide) rfl (fun ls hl => ?_)
        refine lv_goto (tgt := 83) hx hb d_Gp_writePlain_101 (by decide) ?_
        exact ih_83 (j + 1) x47 G44 _ _ _ lj (nb_s e_x47 hj) (by rw [← hE_G44, hGe, gw_up_up]; rfl) (by have hm := hm_83; omega) hI (lv_sub hl [0, 1, 2, 3, 4] rfl)
  exact L_83 _ 0 1 G26 _ _ _ (Nat.zero_le _) rfl (by rw [← hE_G26, ← hE_G19, ← hE_G13, ← hE_G7, ← hE_G1]; simp only [gw_up_up]; rfl) (Nat.lt_succ_self _) hI (lv_sub hl [0, 1, 2, 3, 4] rfl)

abbrev rm_Gp_sealX : Room := { frames := 5, cells := 0, slots := 0, locals := 129 }
set_option maxHeartbeats 4000000 in
set_option maxRecDepth 100000 in
theorem c_Gp_sealX (l : Launch) {D : gw_D} {Hs : Heap} {G : gw_G} (A : Nat → Nat → Nat) (pm : Nat → Nat) (cnt fd : Nat) (tt xt li : Nat → Int32) (la : Nat → Int64) (hC : cls D G A pm cnt fd tt xt li la) (n1 n2 : Int32) (kp : Nat) (hkp : isPl (fun j => tt (pm j)) cnt n1 kp) (hat : kp < cnt ∧ tt (pm kp) = n1)  (hby : okB n2) : Met l y_Gp_seal (Cond.code y_Gp_seal b_Gp_seal 5 (some .int) :: tb) rm_Gp_sealX (gw_Pc D Hs G [.ref (A 0 0), .int n1, .int n2]) (gw_Qi D Hs (fun r G1 => ((gre (xt (pm kp)) ≤ la (pm kp) ∨ li (pm kp) < nI fd) ∧ r = -1 ∧ G1 = G) ∨ (¬ (gre (xt (pm kp)) ≤ la (pm kp) ∨ li (pm kp) < nI fd) ∧ r = nI (fd + 34 + (4 - (fd + 2) % 4) % 4) ∧ G1 = gw_up G (A 12 (pm kp)) (kAp (A 13 (pm kp)) (A 15 (pm kp)) (tt (pm kp)) (xt (pm kp)) (la (pm kp) + 1) (li (pm kp) - nI fd))))) 0 0 (gw_A Hs) := by
  refine gw_met (by decide) (Nat.le_of_ble_eq_true rfl) ?_
  intro p e s m args below meth c M hK hr hlo hin hI ls hl
  have hx := M.1
  have hb := M.2.1
  have hl : lv_has ls 5 [(0, .ref (A 0 0)), (1, .int n1), (2, .int n2)] := hl
  have hi : pm kp < 16 := hC.pmb (Nat.lt_of_lt_of_le hat.1 hC.c16)
  have hI0 := hI
  have hf200 := hC.f200
  refine lv_aload_n hx hb d_Gp_seal_0 rfl (lv_at hl 0 rfl) ?_
  refine lv_iload_n hx hb d_Gp_seal_1 rfl (lv_at hl 1 rfl) ?_
  refine gp_Vr (As := [.int n1]) (rest := []) M hK hI (c_Gp_known l A pm cnt fd tt xt li la hC n1 kp hkp hat) k_Gp_known m_Gp_72 hC.O (ci := 5) rfl (fun x hx => ⟨_, hx⟩) rfl hl.1 rfl (Nat.le_of_ble_eq_true rfl) ⟨rfl, rfl, ⟨Nat.le_of_ble_eq_true rfl, Nat.le_of_ble_eq_true rfl⟩, ⟨Nat.le_of_ble_eq_true rfl, Nat.le_of_ble_eq_true rfl⟩⟩ d_Gp_seal_2 (fun x1 h_x1 => ?_)
  subst h_x1
  refine lv_astore_n (lv' := [(3, .ref (A 12 (pm kp))), (0, .ref (A 0 0)), (1, .int n1), (2, .int n2)]) hx hb d_Gp_seal_5 rfl hl (by decide) rfl (fun ls hl => ?_)
  refine lv_iload_n hx hb d_Gp_seal_6 rfl (lv_at hl 3 rfl) ?_
  refine gp_S (As := [.int n2]) (rest := []) M hK hI (c_Gp_isByte l n2) k_Gp_isByte m_Gp_96 rfl hl.1 rfl (Nat.le_of_ble_eq_true rfl) ⟨rfl, rfl, ⟨Nat.le_of_ble_eq_true rfl, Nat.le_of_ble_eq_true rfl⟩, ⟨Nat.le_of_ble_eq_true rfl, Nat.le_of_ble_eq_true rfl⟩⟩ d_Gp_seal_7 (fun x2 h_x2 => ?_)
  have h_x2 := h_x2.1 hby
  subst h_x2
  refine lv_if_ne (tgt := 21) hx hb d_Gp_seal_10 (by decide) (fun c_10 => ?_) (fun q9 => absurd q9 (by decide))
  refine lv_aload_n hx hb d_Gp_seal_21 rfl (lv_at hl 0 rfl) ?_
  refine gw_get M hK hI (hC.as hi) i_As rfl 7 (by decide) f_Gp_76 rfl (Pv := fun v => v = .long (la (pm kp))) (fun x hx => by obtain ⟨u3, u5, u6, u9, v1, v2, q9⟩ := hx; exact ⟨_, _, q9, rfl, rfl⟩) d_Gp_seal_22 (fun v hv => ?_)
  subst hv
  refine lv_aload_n hx hb d_Gp_seal_25 rfl (lv_at hl 0 rfl) ?_
  refine gp_Vl (As := []) (rest := [.long (la (pm kp))]) M hK hI (c_As_greatestp l (A 12 (pm kp)) (A 13 (pm kp)) (A 15 (pm kp)) (tt (pm kp)) (xt (pm kp)) (la (pm kp)) (li (pm kp)) (hC.as hi)) k_As_greatest m_Gp_80 (hC.as hi) (ci := 0) rfl (fun x hx => by obtain ⟨u3, u5, u6, u9, v1, v2, q9⟩ := hx; exact ⟨_, q9⟩) rfl hl.1 rfl (Nat.le_of_ble_eq_true rfl) ⟨rfl, rfl, ⟨Nat.le_of_ble_eq_true rfl, Nat.le_of_ble_eq_true rfl⟩, ⟨Nat.le_of_ble_eq_true rfl, Nat.le_of_ble_eq_true rfl⟩⟩ d_Gp_seal_26 (fun x3 h_x3 => ?_)
  subst h_x3
  refine W.lcmp hx hb d_Gp_seal_29 ?_
  refine lv_if_ge (tgt := 47) hx hb d_Gp_seal_30 (by decide) (fun c_30 => ?_) (fun c_30 => ?_)
  · have hw1 := c_30
    refine lv_iconst (v := (-1)) hx hb d_Gp_seal_47 (by decide) ?_
    exact gw_iret M hr hlo hI d_Gp_seal_48 (Or.inl ⟨(Or.inl ((lg_cmp_ge _ _).mp c_30)), rfl, rfl⟩)
  · refine lv_aload_n hx hb d_Gp_seal_33 rfl (lv_at hl 1 rfl) ?_
    refine gw_get M hK hI hC.O i_Gp rfl 2 (by decide) f_Gp_24 rfl (Pv := fun v => v = .ref (A 2 0)) (fun x hx => ⟨_, _, hx, rfl, rfl⟩) d_Gp_seal_34 (fun v hv => ?_)
    subst hv
    refine gw_get M hK hI hC.fed i_Ro rfl 1 (by decide) f_Gp_87 rfl (Pv := fun v => v = .int (nI fd)) (fun x hx => ⟨_, _, hx, rfl, rfl⟩) d_Gp_seal_37 (fun v hv => ?_)
    subst hv
    refine lv_aload_n hx hb d_Gp_seal_40 rfl (lv_at hl 0 rfl) ?_
    refine gw_get M hK hI (hC.as hi) i_As rfl 8 (by decide) f_Gp_84 rfl (Pv := fun v => v = .int (li (pm kp))) (fun x hx => by obtain ⟨u3, u5, u6, u9, v1, v2, q9⟩ := hx; exact ⟨_, _, q9, rfl, rfl⟩) d_Gp_seal_41 (fun v hv => ?_)
    subst hv
    refine lv_icmp_le (tgt := 49) hx hb d_Gp_seal_44 (by decide) (fun c_44 => ?_) (fun c_44 => ?_)
    · have hno : ¬ (gre (xt (pm kp)) ≤ la (pm kp) ∨ li (pm kp) < nI fd) := fun h9 => h9.elim (fun h8 => c_30 ((lg_cmp_ge _ _).mpr h8)) (fun h8 => absurd c_44 (Int32.not_le.mpr h8))
      refine lv_aload_n hx hb d_Gp_seal_49 rfl (lv_at hl 0 rfl) ?_
      refine lv_dup hx hb d_Gp_seal_50 rfl ?_
      refine gw_get M hK hI (hC.as hi) i_As rfl 7 (by decide) f_Gp_76 rfl (Pv := fun v => v = .long (la (pm kp))) (fun x hx => by obtain ⟨u3, u5, u6, u9, v1, v2, q9⟩ := hx; exact ⟨_, _, q9, rfl, rfl⟩) d_Gp_seal_51 (fun v hv => ?_)
      subst hv
      refine lv_lconst (v := 1) hx hb d_Gp_seal_54 (by decide) ?_
      refine lv_ladd hx hb d_Gp_seal_55 ?_
      refine lv_topl (fun x4 e_x4 => ?_)
      refine gw_put M hK hI (hC.as hi) i_As t_As tk_As n_As rfl 7 (by decide) f_Gp_76 rfl rfl rfl (kAp (A 13 (pm kp)) (A 15 (pm kp)) (tt (pm kp)) (xt (pm kp)) x4 (li (pm kp))) (fun x hx => by obtain ⟨u3, u5, u6, u9, v1, v2, q9⟩ := hx; exact ⟨_, q9, Nat.le_of_ble_eq_true rfl, ⟨u3, u5, u6, u9, v1, v2, rfl⟩⟩) d_Gp_seal_56 (fun H locs hI => ?_)
      obtain ⟨G5, hE_G5⟩ : ∃ z9, gw_up G (A 12 (pm kp)) (kAp (A 13 (pm kp)) (A 15 (pm kp)) (tt (pm kp)) (xt (pm kp)) x4 (li (pm kp))) = z9 := ⟨_, rfl⟩
      rw [hE_G5] at hI
      have hG7 : G5 (A 12 (pm kp)) = some (kAp (A 13 (pm kp)) (A 15 (pm kp)) (tt (pm kp)) (xt (pm kp)) x4 (li (pm kp))) := by rw [← hE_G5]; exact gw_up_s
      have hs6 : gw_fr (fun b => b = (A 12 (pm kp))) G G5 := by rw [← hE_G5]; exact gw_fr.up rfl
      refine lv_aload_n hx hb d_Gp_seal_59 rfl (lv_at hl 0 rfl) ?_
      refine lv_dup hx hb d_Gp_seal_60 rfl ?_
      refine gw_get M hK hI hG7 i_As rfl 8 (by decide) f_Gp_84 rfl (Pv := fun v => v = .int (li (pm kp))) (fun x hx => by obtain ⟨u3, u5, u6, u9, v1, v2, q9⟩ := hx; exact ⟨_, _, q9, rfl, rfl⟩) d_Gp_seal_61 (fun v hv => ?_)
      subst hv
      refine lv_aload_n hx hb d_Gp_seal_64 rfl (lv_at hl 1 rfl) ?_
      have hG8 : G5 (A 0 0) = some (kx (.inr (5, [.ref (A 1 0), .int (nI cnt), .ref (A 2 0), .ref (A 3 0), .ref (A 4 0), .ref (A 5 0), .ref (A 6 0), .ref (A 7 0)]))) := (hs6 (A 0 0) _ hC.O (gw_nec (u := 5) (v := 0) hI0 hC.O (hC.as hi) (fun x hx => (congrArg gt (show x = _ from hx)).trans rfl) (fun x hx => by obtain ⟨u3, u5, u6, u9, v1, v2, q9⟩ := hx; rw [q9]; rfl) (by decide)))
      refine gw_get M hK hI hG8 i_Gp rfl 2 (by decide) f_Gp_24 rfl (Pv := fun v => v = .ref (A 2 0)) (fun x hx => ⟨_, _, hx, rfl, rfl⟩) d_Gp_seal_65 (fun v hv => ?_)
      subst hv
      have hG9 : G5 (A 2 0) = some (kx (.inr (3, [.ref (A 8 0), .int (nI fd), .int 0]))) := (hs6 (A 2 0) _ hC.fed (gw_nec (u := 3) (v := 0) hI0 hC.fed (hC.as hi) (fun x hx => (congrArg gt (show x = _ from hx)).trans rfl) (fun x hx => by obtain ⟨u3, u5, u6, u9, v1, v2, q9⟩ := hx; rw [q9]; rfl) (by decide)))
      refine gw_get M hK hI hG9 i_Ro rfl 1 (by decide) f_Gp_87 rfl (Pv := fun v => v = .int (nI fd)) (fun x hx => ⟨_, _, hx, rfl, rfl⟩) d_Gp_seal_68 (fun v hv => ?_)
      subst hv
      refine lv_isub hx hb d_Gp_seal_71 ?_
      refine lv_topi (fun x10 e_x10 => ?_)
      refine gw_put M hK hI hG7 i_As t_As tk_As n_As rfl 8 (by decide) f_Gp_84 rfl rfl rfl (kAp (A 13 (pm kp)) (A 15 (pm kp)) (tt (pm kp)) (xt (pm kp)) x4 x10) (fun x hx => by obtain ⟨u3, u5, u6, u9, v1, v2, q9⟩ := hx; exact ⟨_, q9, Nat.le_of_ble_eq_true rfl, ⟨u3, u5, u6, u9, v1, v2, rfl⟩⟩) d_Gp_seal_72 (fun H locs hI => ?_)
      obtain ⟨G11, hE_G11⟩ : ∃ z9, gw_up G5 (A 12 (pm kp)) (kAp (A 13 (pm kp)) (A 15 (pm kp)) (tt (pm kp)) (xt (pm kp)) x4 x10) = z9 := ⟨_, rfl⟩
      rw [hE_G11] at hI
      have hG13 : G11 (A 12 (pm kp)) = some (kAp (A 13 (pm kp)) (A 15 (pm kp)) (tt (pm kp)) (xt (pm kp)) x4 x10) := by rw [← hE_G11]; exact gw_up_s
      have hs12 : gw_fr (fun b => b = (A 12 (pm kp))) G5 G11 := by rw [← hE_G11]; exact gw_fr.up rfl
      have hG9 : G11 = gw_up G (A 12 (pm kp)) (kAp (A 13 (pm kp)) (A 15 (pm kp)) (tt (pm kp)) (xt (pm kp)) (la (pm kp) + 1) (li (pm kp) - nI fd)) := by rw [← hE_G11, ← hE_G5]; simp only [gw_up_up, e_x4, e_x10]
      have hC9 := hC.asup hI0 hi (tt (pm kp)) (xt (pm kp)) (li (pm kp) - nI fd) (la (pm kp) + 1) (hC.p.2.2.2.2 _ hi)
      rw [← hG9] at hC9
      rw [fup_id, fup_id] at hC9
      obtain ⟨li2, hli2⟩ : ∃ z, z = fup li (pm kp) (li (pm kp) - nI fd) := ⟨_, rfl⟩
      obtain ⟨la2, hla2⟩ : ∃ z, z = fup la (pm kp) (la (pm kp) + 1) := ⟨_, rfl⟩
      rw [← hli2, ← hla2] at hC9
      have hI0 := hI
      refine lv_aload_n hx hb d_Gp_seal_75 rfl (lv_at hl 1 rfl) ?_
      refine lv_aload_n hx hb d_Gp_seal_76 rfl (lv_at hl 0 rfl) ?_
      refine lv_iload_n hx hb d_Gp_seal_77 rfl (lv_at hl 3 rfl) ?_
      refine gw_Vv (As := [.ref (A 12 (pm kp)), .int n2]) (rest := []) M hK hI (c_Gp_writePlainX l A pm cnt fd tt xt li2 la2 hC9 (pm kp) hi n2) k_Gp_writePlain m_Gp_99 hC9.O (ci := 5) rfl (fun x hx => ⟨_, hx⟩) rfl hl.1 rfl (Nat.le_of_ble_eq_true rfl) ⟨rfl, rfl, ⟨Nat.le_of_ble_eq_true rfl, Nat.le_of_ble_eq_true rfl⟩, ⟨Nat.le_of_ble_eq_true rfl, Nat.le_of_ble_eq_true rfl⟩⟩ d_Gp_seal_78 (fun G14 H locs hw hI => ?_)
      have hE_G14 : gw_up G11 (A 3 0) (kx (.inr (3, [.ref (A 9 0), .int (nI (18 + fd + (4 - (fd + 2) % 4) % 4)), .int 1]))) = G14 := hw.symm
      have hG16 : G14 (A 3 0) = some (kx (.inr (3, [.ref (A 9 0), .int (nI (18 + fd + (4 - (fd + 2) % 4) % 4)), .int 1]))) := by rw [← hE_G14]; exact gw_up_s
      have hs15 : gw_fr (fun b => b = (A 3 0)) G11 G14 := by rw [← hE_G14]; exact gw_fr.up rfl
      refine lv_aload_n hx hb d_Gp_seal_81 rfl (lv_at hl 1 rfl) ?_
      have hG17 : G14 (A 0 0) = some (kx (.inr (5, [.ref (A 1 0), .int (nI cnt), .ref (A 2 0), .ref (A 3 0), .ref (A 4 0), .ref (A 5 0), .ref (A 6 0), .ref (A 7 0)]))) := (hs15 (A 0 0) _ hC9.O (gw_nec (u := 5) (v := 3) hI0 hC9.O hC9.sent (fun x hx => (congrArg gt (show x = _ from hx)).trans rfl) (fun x hx => by obtain ⟨u1, u2, h_u1, h_u2, q9⟩ := hx; rw [q9]; rfl) (by decide)))
      refine gw_get M hK hI hG17 i_Gp rfl 3 (by decide) f_Gp_28 rfl (Pv := fun v => v = .ref (A 3 0)) (fun x hx => ⟨_, _, hx, rfl, rfl⟩) d_Gp_seal_82 (fun v hv => ?_)
      subst hv
      refine gw_get M hK hI hG16 i_Ro rfl 1 (by decide) f_Gp_87 rfl (Pv := fun v => v = .int (nI (18 + fd + (4 - (fd + 2) % 4) % 4))) (fun x hx => ⟨_, _, hx, rfl, rfl⟩) d_Gp_seal_85 (fun v hv => ?_)
      subst hv
      refine lv_bipush (v := 16) hx hb d_Gp_seal_88 (by decide) ?_
      refine lv_isub hx hb d_Gp_seal_90 ?_
      refine lv_topi (fun x18 e_x18 => ?_)
      refine lv_istore (lv' := [(4, .int x18), (3, .ref (A 12 (pm kp))), (0, .ref (A 0 0)), (1, .int n1), (2, .int n2)]) hx hb d_Gp_seal_91 hl (by decide) rfl (fun ls hl => ?_)
      have hb9 : x18 = nI (18 + fd + (4 - (fd + 2) % 4) % 4 - 16) := by rw [e_x18]; exact nb_sub rfl 16
      have hb8 : -100 ≤ x18.toInt ∧ x18.toInt ≤ 300 := by rw [hb9, nI_toInt (by omega)]; omega
      refine lv_aload_n hx hb d_Gp_seal_93 rfl (lv_at hl 1 rfl) ?_
      refine lv_aload_n hx hb d_Gp_seal_94 rfl (lv_at hl 2 rfl) ?_
      refine gw_get M hK hI hG17 i_Gp rfl 3 (by decide) f_Gp_28 rfl (Pv := fun v => v = .ref (A 3 0)) (fun x hx => ⟨_, _, hx, rfl, rfl⟩) d_Gp_seal_95 (fun v hv => ?_)
      subst hv
      refine lv_bipush (v := 16) hx hb d_Gp_seal_98 (by decide) ?_
      refine lv_aload_n hx hb d_Gp_seal_100 rfl (lv_at hl 1 rfl) ?_
      have hG19 : G14 (A 12 (pm kp)) = some (kAp (A 13 (pm kp)) (A 15 (pm kp)) (tt (pm kp)) (xt (pm kp)) (la2 (pm kp)) (li2 (pm kp))) := (hs15 (A 12 (pm kp)) _ (hC9.as hi) (gw_nec (u := 0) (v := 3) hI0 (hC9.as hi) hC9.sent (fun x hx => by obtain ⟨u3, u5, u6, u9, v1, v2, q9⟩ := hx; rw [q9]; rfl) (fun x hx => by obtain ⟨u1, u2, h_u1, h_u2, q9⟩ := hx; rw [q9]; rfl) (by decide)))
      refine gw_get M hK hI hG19 i_As rfl 7 (by decide) f_Gp_76 rfl (Pv := fun v => v = .long (la2 (pm kp))) (fun x hx => by obtain ⟨u3, u5, u6, u9, v1, v2, q9⟩ := hx; exact ⟨_, _, q9, rfl, rfl⟩) d_Gp_seal_101 (fun v hv => ?_)
      subst hv
      have hG20 : G14 (A 13 (pm kp)) = some (kCi (A 14 (pm kp))) := (hs15 (A 13 (pm kp)) _ (hC9.ci hi) (gw_nec (u := 2) (v := 3) hI0 (hC9.ci hi) hC9.sent (fun x hx => by obtain ⟨u1, u2, q9⟩ := hx; rw [q9]; rfl) (fun x hx => by obtain ⟨u1, u2, h_u1, h_u2, q9⟩ := hx; rw [q9]; rfl) (by decide)))
      have hG21 : G14 (A 14 (pm kp)) = some (kA D 0 44 tT) := (hs15 (A 14 (pm kp)) _ (hC9.wo hi) (gw_nec (u := 100) (v := 3) hI0 (hC9.wo hi) hC9.sent (fun x hx => by obtain ⟨f9, h9, q9⟩ := hx; rw [q9]; rfl) (fun x hx => by obtain ⟨u1, u2, h_u1, h_u2, q9⟩ := hx; rw [q9]; rfl) (by decide)))
      have hG22 : G14 (A 9 0) = some (kA D 1 236 tT) := (hs15 (A 9 0) _ hC9.sq (gw_nec (u := 100) (v := 3) hI0 hC9.sq hC9.sent (fun x hx => by obtain ⟨f9, h9, q9⟩ := hx; rw [q9]; rfl) (fun x hx => by obtain ⟨u1, u2, h_u1, h_u2, q9⟩ := hx; rw [q9]; rfl) (by decide)))
      have hG23 : G14 (A 7 0) = some kCh := (hs15 (A 7 0) _ hC9.check (gw_nec (u := 1) (v := 3) hI0 hC9.check hC9.sent (fun x hx => by obtain ⟨u1, u2, q9⟩ := hx; rw [q9]; rfl) (fun x hx => by obtain ⟨u1, u2, h_u1, h_u2, q9⟩ := hx; rw [q9]; rfl) (by decide)))
      refine gw_Vv (As := [.ref (A 3 0), .int 16, .long (la2 (pm kp))]) (rest := []) M hK hI (c_As_maskX l 16 (by decide) (la2 (pm kp)) (A 3 0) (A 9 0) 236 (18 + fd + (4 - (fd + 2) % 4) % 4) (by decide) (by omega) hG16 hG22 (A 12 (pm kp)) (A 13 (pm kp)) (A 15 (pm kp)) (tt (pm kp)) (xt (pm kp)) (la2 (pm kp)) (li2 (pm kp)) hG19 (A 14 (pm kp)) hG20 hG21) k_As_mask m_Gp_103 hG19 (ci := 0) rfl (fun x hx => by obtain ⟨u3, u5, u6, u9, v1, v2, q9⟩ := hx; exact ⟨_, q9⟩) rfl hl.1 rfl (Nat.le_of_ble_eq_true rfl) ⟨rfl, rfl, ⟨Nat.le_of_ble_eq_true rfl, Nat.le_of_ble_eq_true rfl⟩, ⟨Nat.le_of_ble_eq_true rfl, Nat.le_of_ble_eq_true rfl⟩⟩ d_Gp_seal_104 (fun Gz H locs hw hI => ?_)
      rw [hw] at hI
      refine lv_aload_n hx hb d_Gp_seal_107 rfl (lv_at hl 2 rfl) ?_
      refine gw_get M hK hI hG17 i_Gp rfl 7 (by decide) f_Gp_44 rfl (Pv := fun v => v = .ref (A 7 0)) (fun x hx => ⟨_, _, hx, rfl, rfl⟩) d_Gp_seal_108 (fun v hv => ?_)
      subst hv
      refine lv_aload_n hx hb d_Gp_seal_111 rfl (lv_at hl 1 rfl) ?_
      refine lv_aload_n hx hb d_Gp_seal_112 rfl (lv_at hl 1 rfl) ?_
      refine gw_get M hK hI hG19 i_As rfl 7 (by decide) f_Gp_76 rfl (Pv := fun v => v = .long (la2 (pm kp))) (fun x hx => by obtain ⟨u3, u5, u6, u9, v1, v2, q9⟩ := hx; exact ⟨_, _, q9, rfl, rfl⟩) d_Gp_seal_113 (fun v hv => ?_)
      subst hv
      refine lv_aload_n hx hb d_Gp_seal_116 rfl (lv_at hl 2 rfl) ?_
      refine gw_get M hK hI hG17 i_Gp rfl 3 (by decide) f_Gp_28 rfl (Pv := fun v => v = .ref (A 3 0)) (fun x hx => ⟨_, _, hx, rfl, rfl⟩) d_Gp_seal_117 (fun v hv => ?_)
      subst hv
      refine lv_iload hx hb d_Gp_seal_120 (lv_at hl 0 rfl) ?_
      refine gw_Vv (As := [.ref (A 12 (pm kp)), .long (la2 (pm kp)), .ref (A 3 0), .int x18]) (rest := []) M hK hI (c_Ch_ofBody l (A 7 0) (la2 (pm kp)) x18 hb8 hG23 (A 3 0) (A 9 0) 236 (by decide) hG16 (isRw_X (by omega)) hG22 (A 12 (pm kp)) (A 13 (pm kp)) (A 15 (pm kp)) (tt (pm kp)) (xt (pm kp)) (la2 (pm kp)) (li2 (pm kp)) hG19) k_Ch_ofBody m_Gp_107 hG23 (ci := 1) rfl (fun x hx => by obtain ⟨u1, u2, q9⟩ := hx; exact ⟨_, q9⟩) rfl hl.1 rfl (Nat.le_of_ble_eq_true rfl) ⟨rfl, rfl, ⟨Nat.le_of_ble_eq_true rfl, Nat.le_of_ble_eq_true rfl⟩, ⟨Nat.le_of_ble_eq_true rfl, Nat.le_of_ble_eq_true rfl⟩⟩ d_Gp_seal_122 (fun Gz H locs hw hI => ?_)
      rw [hw] at hI
      refine lv_aload_n hx hb d_Gp_seal_125 rfl (lv_at hl 1 rfl) ?_
      refine lv_aload_n hx hb d_Gp_seal_126 rfl (lv_at hl 2 rfl) ?_
      refine gw_get M hK hI hG17 i_Gp rfl 7 (by decide) f_Gp_44 rfl (Pv := fun v => v = .ref (A 7 0)) (fun x hx => ⟨_, _, hx, rfl, rfl⟩) d_Gp_seal_127 (fun v hv => ?_)
      subst hv
      refine lv_aload_n hx hb d_Gp_seal_130 rfl (lv_at hl 1 rfl) ?_
      refine gw_get M hK hI hG19 i_As rfl 7 (by decide) f_Gp_76 rfl (Pv := fun v => v = .long (la2 (pm kp))) (fun x hx => by obtain ⟨u3, u5, u6, u9, v1, v2, q9⟩ := hx; exact ⟨_, _, q9, rfl, rfl⟩) d_Gp_seal_131 (fun v hv => ?_)
      subst hv
      refine gw_Vv (As := [.ref (A 7 0), .long (la2 (pm kp))]) (rest := []) M hK hI (c_As_maskCheck l (A 7 0) (la2 (pm kp)) hG23 (A 12 (pm kp)) (A 13 (pm kp)) (A 15 (pm kp)) (tt (pm kp)) (xt (pm kp)) (la2 (pm kp)) (li2 (pm kp)) hG19 (A 14 (pm kp)) hG20 hG21) k_As_maskCheck m_Gp_111 hG19 (ci := 0) rfl (fun x hx => by obtain ⟨u3, u5, u6, u9, v1, v2, q9⟩ := hx; exact ⟨_, q9⟩) rfl hl.1 rfl (Nat.le_of_ble_eq_true rfl) ⟨rfl, rfl, ⟨Nat.le_of_ble_eq_true rfl, Nat.le_of_ble_eq_true rfl⟩, ⟨Nat.le_of_ble_eq_true rfl, Nat.le_of_ble_eq_true rfl⟩⟩ d_Gp_seal_134 (fun Gz H locs hw hI => ?_)
      rw [hw] at hI
      refine lv_aload_n hx hb d_Gp_seal_137 rfl (lv_at hl 2 rfl) ?_
      refine gw_get M hK hI hG17 i_Gp rfl 3 (by decide) f_Gp_28 rfl (Pv := fun v => v = .ref (A 3 0)) (fun x hx => ⟨_, _, hx, rfl, rfl⟩) d_Gp_seal_138 (fun v hv => ?_)
      subst hv
      refine lv_aload_n hx hb d_Gp_seal_141 rfl (lv_at hl 2 rfl) ?_
      refine gw_get M hK hI hG17 i_Gp rfl 7 (by decide) f_Gp_44 rfl (Pv := fun v => v = .ref (A 7 0)) (fun x hx => ⟨_, _, hx, rfl, rfl⟩) d_Gp_seal_142 (fun v hv => ?_)
      subst hv
      refine gw_get M hK hI hG23 i_Ch rfl 0 (by decide) f_Gp_115 rfl (Pv := fun v => ∃ x9 : Int64, v = .long x9) (fun x hx => by obtain ⟨u1, u2, q9⟩ := hx; exact ⟨_, _, q9, rfl, _, rfl⟩) d_Gp_seal_145 (fun v hv => ?_)
      obtain ⟨x24, rfl⟩ := hv
      refine lv_bipush (v := 8) hx hb d_Gp_seal_148 (by decide) ?_
      refine gw_Vv (As := [.long x24, .int 8]) (rest := []) M hK hI (c_Ro_appendNumberX l x24 8 (by decide) (A 3 0) (A 9 0) 236 (18 + fd + (4 - (fd + 2) % 4) % 4) (by decide) hG16 hG22 (by omega)) k_Ro_appendNumber m_Gp_118 hG16 (ci := 3) rfl (fun x hx => ⟨_, hx⟩) rfl hl.1 rfl (Nat.le_of_ble_eq_true rfl) ⟨rfl, rfl, ⟨Nat.le_of_ble_eq_true rfl, Nat.le_of_ble_eq_true rfl⟩, ⟨Nat.le_of_ble_eq_true rfl, Nat.le_of_ble_eq_true rfl⟩⟩ d_Gp_seal_150 (fun G25 H locs hw hI => ?_)
      have hE_G25 : gw_up G14 (A 3 0) (kx (.inr (3, [.ref (A 9 0), .int (nI (18 + fd + (4 - (fd + 2) % 4) % 4 + 8)), .int 1]))) = G25 := hw.symm
      have hG27 : G25 (A 3 0) = some (kx (.inr (3, [.ref (A 9 0), .int (nI (18 + fd + (4 - (fd + 2) % 4) % 4 + 8)), .int 1]))) := by rw [← hE_G25]; exact gw_up_s
      have hs26 : gw_fr (fun b => b = (A 3 0)) G14 G25 := by rw [← hE_G25]; exact gw_fr.up rfl
      refine lv_aload_n hx hb d_Gp_seal_153 rfl (lv_at hl 2 rfl) ?_
      have hG28 : G25 (A 0 0) = some (kx (.inr (5, [.ref (A 1 0), .int (nI cnt), .ref (A 2 0), .ref (A 3 0), .ref (A 4 0), .ref (A 5 0), .ref (A 6 0), .ref (A 7 0)]))) := (hs26 (A 0 0) _ hG17 (gw_nec (u := 5) (v := 3) hI0 hC9.O hC9.sent (fun x hx => (congrArg gt (show x = _ from hx)).trans rfl) (fun x hx => by obtain ⟨u1, u2, h_u1, h_u2, q9⟩ := hx; rw [q9]; rfl) (by decide)))
      refine gw_get M hK hI hG28 i_Gp rfl 3 (by decide) f_Gp_28 rfl (Pv := fun v => v = .ref (A 3 0)) (fun x hx => ⟨_, _, hx, rfl, rfl⟩) d_Gp_seal_154 (fun v hv => ?_)
      subst hv
      refine lv_aload_n hx hb d_Gp_seal_157 rfl (lv_at hl 2 rfl) ?_
      refine gw_get M hK hI hG28 i_Gp rfl 7 (by decide) f_Gp_44 rfl (Pv := fun v => v = .ref (A 7 0)) (fun x hx => ⟨_, _, hx, rfl, rfl⟩) d_Gp_seal_158 (fun v hv => ?_)
      subst hv
      have hG29 : G25 (A 7 0) = some kCh := (hs26 (A 7 0) _ hG23 (gw_nec (u := 1) (v := 3) hI0 hC9.check hC9.sent (fun x hx => by obtain ⟨u1, u2, q9⟩ := hx; rw [q9]; rfl) (fun x hx => by obtain ⟨u1, u2, h_u1, h_u2, q9⟩ := hx; rw [q9]; rfl) (by decide)))
      refine gw_get M hK hI hG29 i_Ch rfl 1 (by decide) f_Gp_122 rfl (Pv := fun v => ∃ x9 : Int64, v = .long x9) (fun x hx => by obtain ⟨u1, u2, q9⟩ := hx; exact ⟨_, _, q9, rfl, _, rfl⟩) d_Gp_seal_161 (fun v hv => ?_)
      obtain ⟨x30, rfl⟩ := hv
      refine lv_bipush (v := 8) hx hb d_Gp_seal_164 (by decide) ?_
      have hG31 : G25 (A 9 0) = some (kA D 1 236 tT) := (hs26 (A 9 0) _ hG22 (gw_nec (u := 100) (v := 3) hI0 hC9.sq hC9.sent (fun x hx => by obtain ⟨f9, h9, q9⟩ := hx; rw [q9]; rfl) (fun x hx => by obtain ⟨u1, u2, h_u1, h_u2, q9⟩ := hx; rw [q9]; rfl) (by decide)))
      refine gw_Vv (As := [.long x30, .int 8]) (rest := []) M hK hI (c_Ro_appendNumberX l x30 8 (by decide) (A 3 0) (A 9 0) 236 (18 + fd + (4 - (fd + 2) % 4) % 4 + 8) (by decide) hG27 hG31 (by omega)) k_Ro_appendNumber m_Gp_118 hG27 (ci := 3) rfl (fun x hx => ⟨_, hx⟩) rfl hl.1 rfl (Nat.le_of_ble_eq_true rfl) ⟨rfl, rfl, ⟨Nat.le_of_ble_eq_true rfl, Nat.le_of_ble_eq_true rfl⟩, ⟨Nat.le_of_ble_eq_true rfl, Nat.le_of_ble_eq_true rfl⟩⟩ d_Gp_seal_166 (fun G32 H locs hw hI => ?_)
      have hE_G32 : gw_up G25 (A 3 0) (kx (.inr (3, [.ref (A 9 0), .int (nI (18 + fd + (4 - (fd + 2) % 4) % 4 + 8 + 8)), .int 1]))) = G32 := hw.symm
      have hG34 : G32 (A 3 0) = some (kx (.inr (3, [.ref (A 9 0), .int (nI (18 + fd + (4 - (fd + 2) % 4) % 4 + 8 + 8)), .int 1]))) := by rw [← hE_G32]; exact gw_up_s
      have hs33 : gw_fr (fun b => b = (A 3 0)) G25 G32 := by rw [← hE_G32]; exact gw_fr.up rfl
      refine lv_aload_n hx hb d_Gp_seal_169 rfl (lv_at hl 2 rfl) ?_
      have hG35 : G32 (A 0 0) = some (kx (.inr (5, [.ref (A 1 0), .int (nI cnt), .ref (A 2 0), .ref (A 3 0), .ref (A 4 0), .ref (A 5 0), .ref (A 6 0), .ref (A 7 0)]))) := (hs33 (A 0 0) _ hG28 (gw_nec (u := 5) (v := 3) hI0 hC9.O hC9.sent (fun x hx => (congrArg gt (show x = _ from hx)).trans rfl) (fun x hx => by obtain ⟨u1, u2, h_u1, h_u2, q9⟩ := hx; rw [q9]; rfl) (by decide)))
      refine gw_get M hK hI hG35 i_Gp rfl 3 (by decide) f_Gp_28 rfl (Pv := fun v => v = .ref (A 3 0)) (fun x hx => ⟨_, _, hx, rfl, rfl⟩) d_Gp_seal_170 (fun v hv => ?_)
      subst hv
      refine gw_get M hK hI hG34 i_Ro rfl 1 (by decide) f_Gp_87 rfl (Pv := fun v => v = .int (nI (18 + fd + (4 - (fd + 2) % 4) % 4 + 8 + 8))) (fun x hx => ⟨_, _, hx, rfl, rfl⟩) d_Gp_seal_173 (fun v hv => ?_)
      subst hv
      have hI : gw_I D Hs G11 s.heap _ _ := ⟨gw_P.close (a := A 3 0) (K' := (kx (.inr (3, [.ref (A 9 0), .int (nI (18 + fd + (4 - (fd + 2) % 4) % 4 + 8 + 8)), .int 1])))) (by rw [← hE_G32, ← hE_G25, ← hE_G14] at hI; (try simp only [gw_up_up] at hI); exact hI.1) hC9.sent (fun e h => ⟨_, _, ⟨18 + fd + (4 - (fd + 2) % 4) % 4 + 8 + 8, by omega, rfl⟩, Or.inr rfl, h⟩), hI.2⟩
      exact gw_iret M hr hlo hI d_Gp_seal_176 (Or.inr ⟨hno, by rw [show 18 + fd + (4 - (fd + 2) % 4) % 4 + 8 + 8 = fd + 34 + (4 - (fd + 2) % 4) % 4 from by omega], hG9⟩)
    · have hw1 := c_44
      refine lv_iconst (v := (-1)) hx hb d_Gp_seal_47 (by decide) ?_
      exact gw_iret M hr hlo hI d_Gp_seal_48 (Or.inl ⟨(Or.inr (Int32.not_le.mp c_44)), rfl, rfl⟩)
