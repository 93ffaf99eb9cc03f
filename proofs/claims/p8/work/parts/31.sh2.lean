theorem wd_ne {x : Int32} (h : okV x) : ¬ x.toInt64 = 0 := fun e => by
  have h1 : x.toInt64.toInt = (0 : Int64).toInt := by rw [e]
  rw [Int32.toInt_toInt64] at h1
  have e0 : (0 : Int64).toInt = 0 := rfl
  have := h.1
  omega
/-- number modulo width, by 32: below 32 -/
theorem wd_at {x : Int32} {i : Int64} (h : okV x) (h1 : ¬ i < 1) : vp_in ((i - i / x.toInt64 * x.toInt64).toInt32 / 32) 32 := by
  obtain ⟨w, hw1, hw2⟩ : ∃ w : Nat, (1 ≤ w ∧ w ≤ 1024) ∧ x = nI w := by
    have h0 : ¬ x < 0 := fun q => by rw [Int32.lt_iff_toInt_lt] at q; have e0 : (0 : Int32).toInt = 0 := rfl; have := h.1; omega
    obtain ⟨w, hw, rfl⟩ := nI_of h0
    have h2 := nI_toInt hw
    obtain ⟨h3, h4⟩ := h
    exact ⟨w, by omega, rfl⟩
  have h0 : ¬ i < 0 := fun q => h1 (by rw [Int64.lt_iff_toInt_lt] at q ⊢; have e0 : (0 : Int64).toInt = 0 := rfl; have e1 : (1 : Int64).toInt = 1 := rfl; omega)
  obtain ⟨j, hj, rfl⟩ := pk_lOf h0
  rw [hw2, nI_l (by omega), pk_lRem hj (by omega) (by omega), lN_i]
  have h5 : j % w < w := Nat.mod_lt _ (by omega)
  have h6 : nI (j % w) / 32 = nI (j % w / 32) := pk_div (by omega) (by decide) (by decide)
  rw [h6]
  exact vp_in_nI (by omega) (by decide)

abbrev rm_Wi_isAbove : Room := { frames := 0, cells := 0, slots := 0, locals := 0 }
set_option maxHeartbeats 4000000 in
set_option maxRecDepth 100000 in
theorem c_Wi_isAbove (l : Launch) {D : gw_D} {Hs : Heap} {G : gw_G} (i0 : Int64) (a bi : Nat) (hA : G a = some (kWj bi)) (hB : G bi = some (kA D 0 32 tT)) : Met l y_Wi_isAbove (Cond.code y_Wi_isAbove b_Wi_isAbove 3 (some .boolean) :: tb) rm_Wi_isAbove (gw_Pc D Hs G [.ref a, .long i0]) (gw_Qi D Hs (fun _ G1 => G1 = G)) 0 0 (gw_A Hs) := by
  refine gw_met (by decide) (Nat.le_of_ble_eq_true rfl) ?_
  intro p e s m args below meth c M hK hr hlo hin hI ls hl
  have hx := M.1
  have hb := M.2.1
  have hl : lv_has ls 3 [(0, .ref a), (1, .long i0)] := hl
  refine lv_lload_n hx hb d_Wi_isAbove_0 rfl (lv_at hl 1 rfl) ?_
  refine lv_aload_n hx hb d_Wi_isAbove_1 rfl (lv_at hl 0 rfl) ?_
  refine gw_get M hK hI hA i_Wi rfl 2 (by decide) f_Wi_19 rfl (Pv := fun v => ∃ x9 : Int64, v = .long x9 ∧ ¬ x9 < 0) (fun x hx => by obtain ⟨u1, u2, h_u1, h_u2, q9⟩ := hx; exact ⟨_, _, q9, rfl, _, rfl, h_u2⟩) d_Wi_isAbove_2 (fun v hv => ?_)
  obtain ⟨x1, rfl, h_x1⟩ := hv
  refine lv_aload_n hx hb d_Wi_isAbove_5 rfl (lv_at hl 0 rfl) ?_
  refine gw_get M hK hI hA i_Wi rfl 1 (by decide) f_Wi_15 rfl (Pv := fun v => ∃ x9 : Int32, v = .int x9 ∧ okV x9) (fun x hx => by obtain ⟨u1, u2, h_u1, h_u2, q9⟩ := hx; exact ⟨_, _, q9, rfl, _, rfl, h_u1⟩) d_Wi_isAbove_6 (fun v hv => ?_)
  obtain ⟨x2, rfl, h_x2⟩ := hv
  refine lv_i2l hx hb d_Wi_isAbove_9 rfl ?_
  refine lv_lsub hx hb d_Wi_isAbove_10 ?_
  refine W.lcmp hx hb d_Wi_isAbove_11 ?_
  refine lv_if_le (tgt := 19) hx hb d_Wi_isAbove_12 (by decide) (fun c_12 => ?_) (fun c_12 => ?_)
  · refine lv_iconst (v := 0) hx hb d_Wi_isAbove_19 (by decide) ?_
    exact gw_zret M hr rfl hlo hI d_Wi_isAbove_20 rfl
  · refine lv_iconst (v := 1) hx hb d_Wi_isAbove_15 (by decide) ?_
    refine lv_goto (tgt := 20) hx hb d_Wi_isAbove_16 (by decide) ?_
    exact gw_zret M hr rfl hlo hI d_Wi_isAbove_20 rfl

abbrev rm_Wi_has : Room := { frames := 1, cells := 0, slots := 0, locals := 22 }
set_option maxHeartbeats 4000000 in
set_option maxRecDepth 100000 in
theorem c_Wi_has (l : Launch) {D : gw_D} {Hs : Heap} {G : gw_G} (i0 : Int64) (a bi : Nat) (hA : G a = some (kWj bi)) (hB : G bi = some (kA D 0 32 tT)) : Met l y_Wi_has (Cond.code y_Wi_has b_Wi_has 4 (some .boolean) :: tb) rm_Wi_has (gw_Pc D Hs G [.ref a, .long i0]) (gw_Qi D Hs (fun _ G1 => G1 = G)) 0 0 (gw_A Hs) := by
  refine gw_met (by decide) (Nat.le_of_ble_eq_true rfl) ?_
  intro p e s m args below meth c M hK hr hlo hin hI ls hl
  have hx := M.1
  have hb := M.2.1
  have hl : lv_has ls 4 [(0, .ref a), (1, .long i0)] := hl
  refine lv_lload_n hx hb d_Wi_has_0 rfl (lv_at hl 1 rfl) ?_
  refine lv_lconst (v := 1) hx hb d_Wi_has_1 (by decide) ?_
  refine W.lcmp hx hb d_Wi_has_2 ?_
  refine lv_if_lt (tgt := 23) hx hb d_Wi_has_3 (by decide) (fun c_3 => ?_) (fun c_3 => ?_)
  · refine lv_iconst (v := 0) hx hb d_Wi_has_23 (by decide) ?_
    exact gw_zret M hr rfl hlo hI d_Wi_has_24 rfl
  · refine lv_lload_n hx hb d_Wi_has_6 rfl (lv_at hl 1 rfl) ?_
    refine lv_aload_n hx hb d_Wi_has_7 rfl (lv_at hl 0 rfl) ?_
    refine gw_get M hK hI hA i_Wi rfl 2 (by decide) f_Wi_19 rfl (Pv := fun v => ∃ x9 : Int64, v = .long x9 ∧ ¬ x9 < 0) (fun x hx => by obtain ⟨u1, u2, h_u1, h_u2, q9⟩ := hx; exact ⟨_, _, q9, rfl, _, rfl, h_u2⟩) d_Wi_has_8 (fun v hv => ?_)
    obtain ⟨x1, rfl, h_x1⟩ := hv
    refine W.lcmp hx hb d_Wi_has_11 ?_
    refine lv_if_gt (tgt := 23) hx hb d_Wi_has_12 (by decide) (fun c_12 => ?_) (fun c_12 => ?_)
    · refine lv_iconst (v := 0) hx hb d_Wi_has_23 (by decide) ?_
      exact gw_zret M hr rfl hlo hI d_Wi_has_24 rfl
    · refine lv_aload_n hx hb d_Wi_has_15 rfl (lv_at hl 0 rfl) ?_
      refine lv_lload_n hx hb d_Wi_has_16 rfl (lv_at hl 1 rfl) ?_
      refine gw_Vi (As := [.long i0]) (rest := []) M hK hI (c_Wi_isAbove l i0 a bi hA hB) k_Wi_isAbove m_Wi_23 hA (ci := 4) rfl (fun x hx => by obtain ⟨u1, u2, h_u1, h_u2, q9⟩ := hx; exact ⟨_, q9⟩) rfl hl.1 rfl (Nat.le_of_ble_eq_true rfl) ⟨rfl, rfl, ⟨Nat.le_of_ble_eq_true rfl, Nat.le_of_ble_eq_true rfl⟩, ⟨Nat.le_of_ble_eq_true rfl, Nat.le_of_ble_eq_true rfl⟩⟩ d_Wi_has_17 (fun x2 G9 H locs hw hI => ?_)
      rw [hw] at hI
      refine lv_if_ne (tgt := 25) hx hb d_Wi_has_20 (by decide) (fun c_20 => ?_) (fun c_20 => ?_)
      · refine lv_lload_n hx hb d_Wi_has_25 rfl (lv_at hl 1 rfl) ?_
        refine lv_aload_n hx hb d_Wi_has_26 rfl (lv_at hl 0 rfl) ?_
        refine gw_get M hK hI hA i_Wi rfl 1 (by decide) f_Wi_15 rfl (Pv := fun v => ∃ x9 : Int32, v = .int x9 ∧ okV x9) (fun x hx => by obtain ⟨u1, u2, h_u1, h_u2, q9⟩ := hx; exact ⟨_, _, q9, rfl, _, rfl, h_u1⟩) d_Wi_has_27 (fun v hv => ?_)
        obtain ⟨x3, rfl, h_x3⟩ := hv
        refine lv_i2l hx hb d_Wi_has_30 rfl ?_
        refine lv_lrem hx hb d_Wi_has_31 (wd_ne h_x3) ?_
        refine lv_l2i hx hb d_Wi_has_32 rfl ?_
        refine lv_topi (fun x4 e_x4 => ?_)
        refine lv_istore_n (lv' := [(3, .int x4), (0, .ref a), (1, .long i0)]) hx hb d_Wi_has_33 rfl hl (by decide) rfl (fun ls hl => ?_)
        refine lv_aload_n hx hb d_Wi_has_34 rfl (lv_at hl 1 rfl) ?_
        refine gw_get M hK hI hA i_Wi rfl 0 (by decide) f_Wi_9 rfl (Pv := fun v => v = .ref bi) (fun x hx => by obtain ⟨u1, u2, h_u1, h_u2, q9⟩ := hx; exact ⟨_, _, q9, rfl, rfl⟩) d_Wi_has_35 (fun v hv => ?_)
        subst hv
        refine lv_iload_n hx hb d_Wi_has_38 rfl (lv_at hl 0 rfl) ?_
        refine lv_bipush (v := 32) hx hb d_Wi_has_39 (by decide) ?_
        refine lv_idiv hx hb d_Wi_has_41 (by decide) ?_
        refine gw_iald M hK hI hB (by rw [e_x4]; exact wd_at h_x3 (fun q9 => c_3 ((lg_cmp_lt _ _).mpr q9))) d_Wi_has_42 (fun x5 h_x5 => ?_)
        refine lv_iload_n hx hb d_Wi_has_43 rfl (lv_at hl 0 rfl) ?_
        refine lv_bipush (v := 32) hx hb d_Wi_has_44 (by decide) ?_
        refine lv_irem hx hb d_Wi_has_46 (by decide) ?_
        refine lv_iushr hx hb d_Wi_has_47 rfl ?_
        refine lv_iconst (v := 1) hx hb d_Wi_has_48 (by decide) ?_
        refine lv_iand hx hb d_Wi_has_49 ?_
        refine lv_if_eq (tgt := 57) hx hb d_Wi_has_50 (by decide) (fun c_50 => ?_) (fun c_50 => ?_)
        · refine lv_iconst (v := 0) hx hb d_Wi_has_57 (by decide) ?_
          exact gw_zret M hr rfl hlo hI d_Wi_has_58 rfl
        · refine lv_iconst (v := 1) hx hb d_Wi_has_53 (by decide) ?_
          refine lv_goto (tgt := 58) hx hb d_Wi_has_54 (by decide) ?_
          exact gw_zret M hr rfl hlo hI d_Wi_has_58 rfl
      · refine lv_iconst (v := 0) hx hb d_Wi_has_23 (by decide) ?_
        exact gw_zret M hr rfl hlo hI d_Wi_has_24 rfl

abbrev rm_Wi_bitsFrom : Room := { frames := 2, cells := 0, slots := 0, locals := 45 }
set_option maxHeartbeats 4000000 in
set_option maxRecDepth 100000 in
theorem c_Wi_bitsFrom (l : Launch) {D : gw_D} {Hs : Heap} {G : gw_G} (i0 : Int32) (a bi : Nat) (hA : G a = some (kWj bi)) (hB : G bi = some (kA D 0 32 tT)) : Met l y_Wi_bitsFrom (Cond.code y_Wi_bitsFrom b_Wi_bitsFrom 5 (some .long) :: tb) rm_Wi_bitsFrom (gw_Pc D Hs G [.ref a, .int i0]) (gw_Ql D Hs (fun _ G1 => G1 = G)) 0 0 (gw_A Hs) := by
  refine gw_met (by decide) (Nat.le_of_ble_eq_true rfl) ?_
  intro p e s m args below meth c M hK hr hlo hin hI ls hl
  have hx := M.1
  have hb := M.2.1
  have hl : lv_has ls 5 [(0, .ref a), (1, .int i0)] := hl
  refine lv_lconst (v := 0) hx hb d_Wi_bitsFrom_0 (by decide) ?_
  refine lv_lstore_n (lv' := [(2, .long 0), (0, .ref a), (1, .int i0)]) hx hb d_Wi_bitsFrom_1 rfl hl (by decide) rfl (fun ls hl => ?_)
  refine lv_iconst (v := 0) hx hb d_Wi_bitsFrom_2 (by decide) ?_
  refine lv_istore (lv' := [(4, .int 0), (2, .long 0), (0, .ref a), (1, .int i0)]) hx hb d_Wi_bitsFrom_3 hl (by decide) rfl (fun ls hl => ?_)
  have L_5 : ∀ (n9 : Nat) (k : Nat) (y2 : Int64) (y4 : Int32) (H : Heap) (locs : List Loc) (ls : Array Slot), k ≤ 64 → y4 = nI k → 64 - k < n9 → gw_I D Hs G s.heap H locs → lv_has ls 5 [(4, .int y4), (2, .long y2), (0, .ref a), (1, .int i0)] → W p l e rm_Wi_bitsFrom s m args below meth c H locs 0 0 (MQ below (gw_Ql D Hs (fun _ G1 => G1 = G)) args s 0 0 (gw_A Hs)) (F0 m 5 ls []) := by
    intro n9
    induction n9 with
    | zero =>
      intro k y2 y4 H locs ls h8 hk hm hI hl
      exact absurd hm (Nat.not_lt_zero _)
    | succ n9 ih_5 =>
      intro k y2 y4 H locs ls h8 hk hm_5 hI hl
      refine lv_iload hx hb d_Wi_bitsFrom_5 (lv_at hl 0 rfl) ?_
      refine lv_bipush (v := 64) hx hb d_Wi_bitsFrom_7 (by decide) ?_
      refine lv_icmp_ge (tgt := 43) hx hb d_Wi_bitsFrom_9 (by decide) (fun c_9 => ?_) (fun c_9 => ?_)
      · refine lv_lload_n hx hb d_Wi_bitsFrom_43 rfl (lv_at hl 1 rfl) ?_
        exact gw_lret M hr hlo hI d_Wi_bitsFrom_44 rfl
      · have hlt : k < 64 := nb_lt (n := 64) hk c_9 (by decide) (z_31 h8)
        refine lv_aload_n hx hb d_Wi_bitsFrom_12 rfl (lv_at hl 2 rfl) ?_
        refine lv_aload_n hx hb d_Wi_bitsFrom_13 rfl (lv_at hl 2 rfl) ?_
        refine gw_get M hK hI hA i_Wi rfl 2 (by decide) f_Wi_19 rfl (Pv := fun v => ∃ x9 : Int64, v = .long x9 ∧ ¬ x9 < 0) (fun x hx => by obtain ⟨u1, u2, h_u1, h_u2, q9⟩ := hx; exact ⟨_, _, q9, rfl, _, rfl, h_u2⟩) d_Wi_bitsFrom_14 (fun v hv => ?_)
        obtain ⟨x1, rfl, h_x1⟩ := hv
        refine lv_iload_n hx hb d_Wi_bitsFrom_17 rfl (lv_at hl 3 rfl) ?_
        refine lv_i2l hx hb d_Wi_bitsFrom_18 rfl ?_
        refine lv_lsub hx hb d_Wi_bitsFrom_19 ?_
        refine lv_iload hx hb d_Wi_bitsFrom_20 (lv_at hl 0 rfl) ?_
        refine lv_i2l hx hb d_Wi_bitsFrom_22 rfl ?_
        refine lv_lsub hx hb d_Wi_bitsFrom_23 ?_
        refine gw_Vi (As := [.long ((x1 - ((i0).toInt64)) - ((y4).toInt64))]) (rest := []) M hK hI (c_Wi_has l ((x1 - ((i0).toInt64)) - ((y4).toInt64)) a bi hA hB) k_Wi_has m_Wi_37 hA (ci := 4) rfl (fun x hx => by obtain ⟨u1, u2, h_u1, h_u2, q9⟩ := hx; exact ⟨_, q9⟩) rfl hl.1 rfl (Nat.le_of_ble_eq_true rfl) ⟨rfl, rfl, ⟨Nat.le_of_ble_eq_true rfl, Nat.le_of_ble_eq_true rfl⟩, ⟨Nat.le_of_ble_eq_true rfl, Nat.le_of_ble_eq_true rfl⟩⟩ d_Wi_bitsFrom_24 (fun x2 G9 H locs hw hI => ?_)
        rw [hw] at hI
        refine lv_if_eq (tgt := 37) hx hb d_Wi_bitsFrom_27 (by decide) (fun c_27 => ?_) (fun c_27 => ?_)
        · obtain ⟨x3, e_x3⟩ : ∃ ww9 : Int32, ww9 = y4 + 1 := ⟨_, rfl⟩
          refine lv_iinc (v := x3) (lv' := [(4, .int x3), (2, .long y2), (0, .ref a), (1, .int i0)]) hx hb d_Wi_bitsFrom_37 hl (k := 0) rfl (by rw [e_x3]; rfl) (by decide) rfl (fun ls hl => ?_)
          refine lv_goto (tgt := 5) hx hb d_Wi_bitsFrom_40 (by decide) ?_
          exact ih_5 (k + 1) y2 x3 _ _ _ hlt (nb_s e_x3 hk) (z_m hm_5 hlt) hI (lv_sub hl [0, 1, 2, 3] rfl)
        · refine lv_lload_n hx hb d_Wi_bitsFrom_30 rfl (lv_at hl 1 rfl) ?_
          refine lv_lconst (v := 1) hx hb d_Wi_bitsFrom_31 (by decide) ?_
          refine lv_iload hx hb d_Wi_bitsFrom_32 (lv_at hl 0 rfl) ?_
          refine lv_lshl hx hb d_Wi_bitsFrom_34 rfl ?_
          refine lv_lor hx hb d_Wi_bitsFrom_35 ?_
          refine lv_topl (fun x4 e_x4 => ?_)
          refine lv_lstore_n (lv' := [(2, .long x4), (4, .int y4), (0, .ref a), (1, .int i0)]) hx hb d_Wi_bitsFrom_36 rfl hl (by decide) rfl (fun ls hl => ?_)
          obtain ⟨x5, e_x5⟩ : ∃ ww9 : Int32, ww9 = y4 + 1 := ⟨_, rfl⟩
          refine lv_iinc (v := x5) (lv' := [(4, .int x5), (2, .long x4), (0, .ref a), (1, .int i0)]) hx hb d_Wi_bitsFrom_37 hl (k := 1) rfl (by rw [e_x5]; rfl) (by decide) rfl (fun ls hl => ?_)
          refine lv_goto (tgt := 5) hx hb d_Wi_bitsFrom_40 (by decide) ?_
          exact ih_5 (k + 1) x4 x5 _ _ _ hlt (nb_s e_x5 hk) (z_m hm_5 hlt) hI (lv_sub hl [0, 1, 2, 3] rfl)
  exact L_5 _ 0 0 0 _ _ _ (Nat.zero_le _) rfl (Nat.lt_succ_self _) hI (lv_sub hl [0, 1, 2, 3] rfl)

abbrev rm_As_greatest : Room := { frames := 0, cells := 0, slots := 0, locals := 0 }
set_option maxHeartbeats 4000000 in
set_option maxRecDepth 100000 in
theorem c_As_greatest (l : Launch) {D : gw_D} {Hs : Heap} {G : gw_G} (a ci wi : Nat) (tt xt : Int32) (la : Int64) (li : Int32) (hA : G a = some (kAp ci wi tt xt la li)) : Met l y_As_greatest (Cond.code y_As_greatest b_As_greatest 1 (some .long) :: tb) rm_As_greatest (gw_Pc D Hs G [.ref a]) (gw_Ql D Hs (fun r G1 => r = (if xt = 0 then 4294967295 else 9223372036854775807) ∧ G1 = G)) 0 0 (gw_A Hs) := by
  refine gw_met (by decide) (Nat.le_of_ble_eq_true rfl) ?_
  intro p e s m args below meth c M hK hr hlo hin hI ls hl
  have hx := M.1
  have hb := M.2.1
  have hl : lv_has ls 1 [(0, .ref a)] := hl
  refine lv_aload_n hx hb d_As_greatest_0 rfl (lv_at hl 0 rfl) ?_
  refine gw_get M hK hI hA i_As rfl 4 (by decide) f_As_30 rfl (Pv := fun v => v = .int xt) (fun x hx => by obtain ⟨u3, u5, u6, u9, v1, v2, q9⟩ := hx; exact ⟨_, _, q9, rfl, rfl⟩) d_As_greatest_1 (fun v hv => ?_)
  subst hv
  refine lv_if_eq (tgt := 13) hx hb d_As_greatest_4 (by decide) (fun c_4 => ?_) (fun c_4 => ?_)
  · refine lv_ldc2 (v := 4294967295) hx hb M.2.2.2.1 (M.2.2.2.2 _ o_As_79) d_As_greatest_13 ?_
    exact gw_lret M hr hlo hI d_As_greatest_16 (⟨by rw [if_pos c_4], rfl⟩)
  · refine lv_ldc2 (v := 9223372036854775807) hx hb M.2.2.2.1 (M.2.2.2.2 _ o_As_77) d_As_greatest_7 ?_
    refine lv_goto (tgt := 16) hx hb d_As_greatest_10 (by decide) ?_
    exact gw_lret M hr hlo hI d_As_greatest_16 (⟨by rw [if_neg c_4], rfl⟩)

abbrev rm_As_fullNumber : Room := { frames := 0, cells := 0, slots := 0, locals := 0 }
set_option maxHeartbeats 4000000 in
set_option maxRecDepth 100000 in
theorem c_As_fullNumber (l : Launch) {D : gw_D} {Hs : Heap} {G : gw_G} (i0 : Int64) (a ci wi : Nat) (tt xt : Int32) (la : Int64) (li : Int32) (hA : G a = some (kAp ci wi tt xt la li)) (bi : Nat) (hW : G wi = some (kWj bi)) (hB : G bi = some (kA D 0 32 tT)) : Met l y_As_fullNumber (Cond.code y_As_fullNumber b_As_fullNumber 5 (some .long) :: tb) rm_As_fullNumber (gw_Pc D Hs G [.ref a, .long i0]) (gw_Ql D Hs (fun _ G1 => G1 = G)) 0 0 (gw_A Hs) := by
  refine gw_met (by decide) (Nat.le_of_ble_eq_true rfl) ?_
  intro p e s m args below meth c M hK hr hlo hin hI ls hl
  have hx := M.1
  have hb := M.2.1
  have hl : lv_has ls 5 [(0, .ref a), (1, .long i0)] := hl
  refine lv_aload_n hx hb d_As_fullNumber_0 rfl (lv_at hl 0 rfl) ?_
  refine gw_get M hK hI hA i_As rfl 4 (by decide) f_As_30 rfl (Pv := fun v => v = .int xt) (fun x hx => by obtain ⟨u3, u5, u6, u9, v1, v2, q9⟩ := hx; exact ⟨_, _, q9, rfl, rfl⟩) d_As_fullNumber_1 (fun v hv => ?_)
  subst hv
  refine lv_if_ne (tgt := 9) hx hb d_As_fullNumber_4 (by decide) (fun c_4 => ?_) (fun c_4 => ?_)
  · refine lv_aload_n hx hb d_As_fullNumber_9 rfl (lv_at hl 0 rfl) ?_
    refine gw_get M hK hI hA i_As rfl 1 (by decide) f_As_19 rfl (Pv := fun v => v = .ref wi) (fun x hx => by obtain ⟨u3, u5, u6, u9, v1, v2, q9⟩ := hx; exact ⟨_, _, q9, rfl, rfl⟩) d_As_fullNumber_10 (fun v hv => ?_)
    subst hv
    refine gw_get M hK hI hW i_Wi rfl 2 (by decide) f_As_81 rfl (Pv := fun v => ∃ x9 : Int64, v = .long x9 ∧ ¬ x9 < 0) (fun x hx => by obtain ⟨u1, u2, h_u1, h_u2, q9⟩ := hx; exact ⟨_, _, q9, rfl, _, rfl, h_u2⟩) d_As_fullNumber_13 (fun v hv => ?_)
    obtain ⟨x1, rfl, h_x1⟩ := hv
    refine lv_aload_n hx hb d_As_fullNumber_16 rfl (lv_at hl 0 rfl) ?_
    refine gw_get M hK hI hA i_As rfl 1 (by decide) f_As_19 rfl (Pv := fun v => v = .ref wi) (fun x hx => by obtain ⟨u3, u5, u6, u9, v1, v2, q9⟩ := hx; exact ⟨_, _, q9, rfl, rfl⟩) d_As_fullNumber_17 (fun v hv => ?_)
    subst hv
    refine gw_get M hK hI hW i_Wi rfl 1 (by decide) f_As_84 rfl (Pv := fun v => ∃ x9 : Int32, v = .int x9 ∧ okV x9) (fun x hx => by obtain ⟨u1, u2, h_u1, h_u2, q9⟩ := hx; exact ⟨_, _, q9, rfl, _, rfl, h_u1⟩) d_As_fullNumber_20 (fun v hv => ?_)
    obtain ⟨x2, rfl, h_x2⟩ := hv
    refine lv_i2l hx hb d_As_fullNumber_23 rfl ?_
    refine lv_lsub hx hb d_As_fullNumber_24 ?_
    refine lv_lconst (v := 1) hx hb d_As_fullNumber_25 (by decide) ?_
    refine lv_ladd hx hb d_As_fullNumber_26 ?_
    refine lv_topl (fun x3 e_x3 => ?_)
    refine lv_lstore_n (lv' := [(3, .long x3), (0, .ref a), (1, .long i0)]) hx hb d_As_fullNumber_27 rfl hl (by decide) rfl (fun ls hl => ?_)
    refine lv_lload_n hx hb d_As_fullNumber_28 rfl (lv_at hl 0 rfl) ?_
    refine lv_lload_n hx hb d_As_fullNumber_29 rfl (lv_at hl 2 rfl) ?_
    refine lv_lload_n hx hb d_As_fullNumber_30 rfl (lv_at hl 0 rfl) ?_
    refine lv_lsub hx hb d_As_fullNumber_31 ?_
    refine lv_ldc2 (v := 4294967295) hx hb M.2.2.2.1 (M.2.2.2.2 _ o_As_79) d_As_fullNumber_32 ?_
    refine lv_land hx hb d_As_fullNumber_35 ?_
    refine lv_ladd hx hb d_As_fullNumber_36 ?_
    exact gw_lret M hr hlo hI d_As_fullNumber_37 rfl
  · refine lv_lload_n hx hb d_As_fullNumber_7 rfl (lv_at hl 1 rfl) ?_
    exact gw_lret M hr hlo hI d_As_fullNumber_8 rfl

abbrev rm_As_mayGiveOut : Room := { frames := 2, cells := 0, slots := 0, locals := 45 }
set_option maxHeartbeats 4000000 in
set_option maxRecDepth 100000 in
theorem c_As_mayGiveOut (l : Launch) {D : gw_D} {Hs : Heap} {G : gw_G} (i0 : Int64) (a ci wi : Nat) (tt xt : Int32) (la : Int64) (li : Int32) (hA : G a = some (kAp ci wi tt xt la li)) (bi : Nat) (hW : G wi = some (kWj bi)) (hB : G bi = some (kA D 0 32 tT)) : Met l y_As_mayGiveOut (Cond.code y_As_mayGiveOut b_As_mayGiveOut 3 (some .boolean) :: tb) rm_As_mayGiveOut (gw_Pc D Hs G [.ref a, .long i0]) (gw_Qi D Hs (fun _ G1 => G1 = G)) 0 0 (gw_A Hs) := by
  refine gw_met (by decide) (Nat.le_of_ble_eq_true rfl) ?_
  intro p e s m args below meth c M hK hr hlo hin hI ls hl
  have hx := M.1
  have hb := M.2.1
  have hl : lv_has ls 3 [(0, .ref a), (1, .long i0)] := hl
  refine lv_lload_n hx hb d_As_mayGiveOut_0 rfl (lv_at hl 1 rfl) ?_
  refine lv_lconst (v := 1) hx hb d_As_mayGiveOut_1 (by decide) ?_
  refine W.lcmp hx hb d_As_mayGiveOut_2 ?_
  refine lv_if_lt (tgt := 41) hx hb d_As_mayGiveOut_3 (by decide) (fun c_3 => ?_) (fun c_3 => ?_)
  · refine lv_iconst (v := 0) hx hb d_As_mayGiveOut_41 (by decide) ?_
    exact gw_zret M hr rfl hlo hI d_As_mayGiveOut_42 rfl
  · refine lv_lload_n hx hb d_As_mayGiveOut_6 rfl (lv_at hl 1 rfl) ?_
    refine lv_aload_n hx hb d_As_mayGiveOut_7 rfl (lv_at hl 0 rfl) ?_
    refine gw_Vl (As := []) (rest := [.long i0]) M hK hI (c_As_greatest l a ci wi tt xt la li hA) k_As_greatest m_As_87 hA (ci := 0) rfl (fun x hx => by obtain ⟨u3, u5, u6, u9, v1, v2, q9⟩ := hx; exact ⟨_, q9⟩) rfl hl.1 rfl (Nat.le_of_ble_eq_true rfl) ⟨rfl, rfl, ⟨Nat.le_of_ble_eq_true rfl, Nat.le_of_ble_eq_true rfl⟩, ⟨Nat.le_of_ble_eq_true rfl, Nat.le_of_ble_eq_true rfl⟩⟩ d_As_mayGiveOut_8 (fun x1 G9 H locs hw hI => ?_)
    obtain ⟨h_x1, hw⟩ := hw
    rw [hw] at hI
    refine W.lcmp hx hb d_As_mayGiveOut_11 ?_
    refine lv_if_gt (tgt := 41) hx hb d_As_mayGiveOut_12 (by decide) (fun c_12 => ?_) (fun c_12 => ?_)
    · refine lv_iconst (v := 0) hx hb d_As_mayGiveOut_41 (by decide) ?_
      exact gw_zret M hr rfl hlo hI d_As_mayGiveOut_42 rfl
    · refine lv_aload_n hx hb d_As_mayGiveOut_15 rfl (lv_at hl 0 rfl) ?_
      refine gw_get M hK hI hA i_As rfl 1 (by decide) f_As_19 rfl (Pv := fun v => v = .ref wi) (fun x hx => by obtain ⟨u3, u5, u6, u9, v1, v2, q9⟩ := hx; exact ⟨_, _, q9, rfl, rfl⟩) d_As_mayGiveOut_16 (fun v hv => ?_)
      subst hv
      refine lv_lload_n hx hb d_As_mayGiveOut_19 rfl (lv_at hl 1 rfl) ?_
      refine gw_Vi (As := [.long i0]) (rest := []) M hK hI (c_Wi_isAbove l i0 wi bi hW hB) k_Wi_isAbove m_As_91 hW (ci := 4) rfl (fun x hx => by obtain ⟨u1, u2, h_u1, h_u2, q9⟩ := hx; exact ⟨_, q9⟩) rfl hl.1 rfl (Nat.le_of_ble_eq_true rfl) ⟨rfl, rfl, ⟨Nat.le_of_ble_eq_true rfl, Nat.le_of_ble_eq_true rfl⟩, ⟨Nat.le_of_ble_eq_true rfl, Nat.le_of_ble_eq_true rfl⟩⟩ d_As_mayGiveOut_20 (fun x2 G9 H locs hw hI => ?_)
      rw [hw] at hI
      refine lv_if_eq (tgt := 41) hx hb d_As_mayGiveOut_23 (by decide) (fun c_23 => ?_) (fun c_23 => ?_)
      · refine lv_iconst (v := 0) hx hb d_As_mayGiveOut_41 (by decide) ?_
        exact gw_zret M hr rfl hlo hI d_As_mayGiveOut_42 rfl
      · refine lv_aload_n hx hb d_As_mayGiveOut_26 rfl (lv_at hl 0 rfl) ?_
        refine gw_get M hK hI hA i_As rfl 1 (by decide) f_As_19 rfl (Pv := fun v => v = .ref wi) (fun x hx => by obtain ⟨u3, u5, u6, u9, v1, v2, q9⟩ := hx; exact ⟨_, _, q9, rfl, rfl⟩) d_As_mayGiveOut_27 (fun v hv => ?_)
        subst hv
        refine lv_lload_n hx hb d_As_mayGiveOut_30 rfl (lv_at hl 1 rfl) ?_
        refine gw_Vi (As := [.long i0]) (rest := []) M hK hI (c_Wi_has l i0 wi bi hW hB) k_Wi_has m_As_95 hW (ci := 4) rfl (fun x hx => by obtain ⟨u1, u2, h_u1, h_u2, q9⟩ := hx; exact ⟨_, q9⟩) rfl hl.1 rfl (Nat.le_of_ble_eq_true rfl) ⟨rfl, rfl, ⟨Nat.le_of_ble_eq_true rfl, Nat.le_of_ble_eq_true rfl⟩, ⟨Nat.le_of_ble_eq_true rfl, Nat.le_of_ble_eq_true rfl⟩⟩ d_As_mayGiveOut_31 (fun x3 G9 H locs hw hI => ?_)
        rw [hw] at hI
        refine lv_if_ne (tgt := 41) hx hb d_As_mayGiveOut_34 (by decide) (fun c_34 => ?_) (fun c_34 => ?_)
        · refine lv_iconst (v := 0) hx hb d_As_mayGiveOut_41 (by decide) ?_
          exact gw_zret M hr rfl hlo hI d_As_mayGiveOut_42 rfl
        · refine lv_iconst (v := 1) hx hb d_As_mayGiveOut_37 (by decide) ?_
          refine lv_goto (tgt := 42) hx hb d_As_mayGiveOut_38 (by decide) ?_
          exact gw_zret M hr rfl hlo hI d_As_mayGiveOut_42 rfl

abbrev rm_As_encryptJ : Room := { frames := 3, cells := 0, slots := 0, locals := 76 }
set_option maxHeartbeats 4000000 in
set_option maxRecDepth 100000 in
theorem c_As_encryptJ (l : Launch) {D : gw_D} {Hs : Heap} {G : gw_G} (i0 : Int64) (j0 : Int32) (a ci wi : Nat) (tt xt : Int32) (la : Int64) (li : Int32) (hA : G a = some (kAp ci wi tt xt la li)) (wo : Nat) (hC : G ci = some (kCi wo)) (hO : G wo = some (kA D 0 44 tT)) : Met l y_As_encryptJ (Cond.code y_As_encryptJ b_As_encryptJ 4 none :: tb) rm_As_encryptJ (gw_Pc D Hs G [.ref a, .long i0, .int j0]) (gw_Qv D Hs (fun G1 => G1 = G)) 0 0 (gw_A Hs) := by
  refine gw_met (by decide) (Nat.le_of_ble_eq_true rfl) ?_
  intro p e s m args below meth c M hK hr hlo hin hI ls hl
  have hx := M.1
  have hb := M.2.1
  have hl : lv_has ls 4 [(0, .ref a), (1, .long i0), (3, .int j0)] := hl
  refine lv_aload_n hx hb d_As_encryptJ_0 rfl (lv_at hl 0 rfl) ?_
  refine gw_get M hK hI hA i_As rfl 0 (by decide) f_As_10 rfl (Pv := fun v => v = .ref ci) (fun x hx => by obtain ⟨u3, u5, u6, u9, v1, v2, q9⟩ := hx; exact ⟨_, _, q9, rfl, rfl⟩) d_As_encryptJ_1 (fun v hv => ?_)
  subst hv
  refine lv_aload_n hx hb d_As_encryptJ_4 rfl (lv_at hl 0 rfl) ?_
  refine gw_get M hK hI hA i_As rfl 3 (by decide) f_As_27 rfl (Pv := fun v => ∃ x9 : Int32, v = .int x9) (fun x hx => by obtain ⟨u3, u5, u6, u9, v1, v2, q9⟩ := hx; exact ⟨_, _, q9, rfl, _, rfl⟩) d_As_encryptJ_5 (fun v hv => ?_)
  obtain ⟨x1, rfl⟩ := hv
  refine lv_lload_n hx hb d_As_encryptJ_8 rfl (lv_at hl 1 rfl) ?_
  refine lv_bipush (v := 32) hx hb d_As_encryptJ_9 (by decide) ?_
  refine lv_lushr hx hb d_As_encryptJ_11 rfl ?_
  refine lv_l2i hx hb d_As_encryptJ_12 rfl ?_
  refine lv_lload_n hx hb d_As_encryptJ_13 rfl (lv_at hl 1 rfl) ?_
  refine lv_l2i hx hb d_As_encryptJ_14 rfl ?_
  refine lv_iload_n hx hb d_As_encryptJ_15 rfl (lv_at hl 2 rfl) ?_
  refine gw_Vv (As := [.int x1, .int (((((i0).toUInt64 >>> (((32 : Int32)).toInt64.toUInt64 &&& Int64.toUInt64 63)).toInt64)).toInt32), .int ((i0).toInt32), .int j0]) (rest := []) M hK hI (c_Ci_encrypt l ci wo x1 (((((i0).toUInt64 >>> (((32 : Int32)).toInt64.toUInt64 &&& Int64.toUInt64 63)).toInt64)).toInt32) ((i0).toInt32) j0 hC hO) k_Ci_encrypt m_As_65 hC (ci := 2) rfl (fun x hx => by obtain ⟨u1, u2, q9⟩ := hx; exact ⟨_, q9⟩) rfl hl.1 rfl (Nat.le_of_ble_eq_true rfl) ⟨rfl, rfl, ⟨Nat.le_of_ble_eq_true rfl, Nat.le_of_ble_eq_true rfl⟩, ⟨Nat.le_of_ble_eq_true rfl, Nat.le_of_ble_eq_true rfl⟩⟩ d_As_encryptJ_16 (fun G9 H locs hw hI => ?_)
  rw [hw] at hI
  exact gw_vret M hr hlo hI d_As_encryptJ_19 rfl

abbrev rm_As_maskCheck : Room := { frames := 4, cells := 0, slots := 0, locals := 99 }
set_option maxHeartbeats 4000000 in
set_option maxRecDepth 100000 in
theorem c_As_maskCheck (l : Launch) {D : gw_D} {Hs : Heap} {G : gw_G} (e2 : Nat) (i0 : Int64) (hE : G e2 = some kCh) (a ci wi : Nat) (tt xt : Int32) (la : Int64) (li : Int32) (hA : G a = some (kAp ci wi tt xt la li)) (wo : Nat) (hC : G ci = some (kCi wo)) (hO : G wo = some (kA D 0 44 tT)) : Met l y_As_maskCheck (Cond.code y_As_maskCheck b_As_maskCheck 4 none :: tb) rm_As_maskCheck (gw_Pc D Hs G [.ref a, .ref e2, .long i0]) (gw_Qv D Hs (fun G1 => G1 = G)) 0 0 (gw_A Hs) := by
  refine gw_met (by decide) (Nat.le_of_ble_eq_true rfl) ?_
  intro p e s m args below meth c M hK hr hlo hin hI ls hl
  have hx := M.1
  have hb := M.2.1
  have hl : lv_has ls 4 [(0, .ref a), (1, .ref e2), (2, .long i0)] := hl
  refine lv_aload_n hx hb d_As_maskCheck_0 rfl (lv_at hl 0 rfl) ?_
  refine lv_lload_n hx hb d_As_maskCheck_1 rfl (lv_at hl 2 rfl) ?_
  refine lv_iconst (v := 1) hx hb d_As_maskCheck_2 (by decide) ?_
  refine gw_Vv (As := [.long i0, .int 1]) (rest := []) M hK hI (c_As_encryptJ l i0 1 a ci wi tt xt la li hA wo hC hO) k_As_encryptJ m_As_107 hA (ci := 0) rfl (fun x hx => by obtain ⟨u3, u5, u6, u9, v1, v2, q9⟩ := hx; exact ⟨_, q9⟩) rfl hl.1 rfl (Nat.le_of_ble_eq_true rfl) ⟨rfl, rfl, ⟨Nat.le_of_ble_eq_true rfl, Nat.le_of_ble_eq_true rfl⟩, ⟨Nat.le_of_ble_eq_true rfl, Nat.le_of_ble_eq_true rfl⟩⟩ d_As_maskCheck_3 (fun G9 H locs hw hI => ?_)
  rw [hw] at hI
  refine lv_aload_n hx hb d_As_maskCheck_6 rfl (lv_at hl 1 rfl) ?_
  refine lv_dup hx hb d_As_maskCheck_7 rfl ?_
  refine gw_get M hK hI hE i_Ch rfl 0 (by decide) f_As_125 rfl (Pv := fun v => ∃ x9 : Int64, v = .long x9) (fun x hx => by obtain ⟨u1, u2, q9⟩ := hx; exact ⟨_, _, q9, rfl, _, rfl⟩) d_As_maskCheck_8 (fun v hv => ?_)
  obtain ⟨x2, rfl⟩ := hv
  refine lv_aload_n hx hb d_As_maskCheck_11 rfl (lv_at hl 0 rfl) ?_
  refine gw_get M hK hI hA i_As rfl 0 (by decide) f_As_10 rfl (Pv := fun v => v = .ref ci) (fun x hx => by obtain ⟨u3, u5, u6, u9, v1, v2, q9⟩ := hx; exact ⟨_, _, q9, rfl, rfl⟩) d_As_maskCheck_12 (fun v hv => ?_)
  subst hv
  refine gw_get M hK hI hC i_Ci rfl 1 (by decide) f_As_69 rfl (Pv := fun v => ∃ x9 : Int64, v = .long x9) (fun x hx => by obtain ⟨u1, u2, q9⟩ := hx; exact ⟨_, _, q9, rfl, _, rfl⟩) d_As_maskCheck_15 (fun v hv => ?_)
  obtain ⟨x3, rfl⟩ := hv
  refine lv_lxor hx hb d_As_maskCheck_18 ?_
  refine lv_topl (fun x4 e_x4 => ?_)
  refine gw_put M hK hI hE i_Ch t_Ch tk_Ch n_Ch rfl 0 (by decide) f_As_125 rfl rfl rfl kCh (fun x hx => by obtain ⟨u1, u2, q9⟩ := hx; exact ⟨_, q9, Nat.le_of_ble_eq_true rfl, ⟨_, u2, rfl⟩⟩) d_As_maskCheck_19 (fun H locs hI => ?_)
  rw [gw_up_id hE] at hI
  refine lv_aload_n hx hb d_As_maskCheck_22 rfl (lv_at hl 1 rfl) ?_
  refine lv_dup hx hb d_As_maskCheck_23 rfl ?_
  refine gw_get M hK hI hE i_Ch rfl 1 (by decide) f_As_128 rfl (Pv := fun v => ∃ x9 : Int64, v = .long x9) (fun x hx => by obtain ⟨u1, u2, q9⟩ := hx; exact ⟨_, _, q9, rfl, _, rfl⟩) d_As_maskCheck_24 (fun v hv => ?_)
  obtain ⟨x5, rfl⟩ := hv
  refine lv_aload_n hx hb d_As_maskCheck_27 rfl (lv_at hl 0 rfl) ?_
  refine gw_get M hK hI hA i_As rfl 0 (by decide) f_As_10 rfl (Pv := fun v => v = .ref ci) (fun x hx => by obtain ⟨u3, u5, u6, u9, v1, v2, q9⟩ := hx; exact ⟨_, _, q9, rfl, rfl⟩) d_As_maskCheck_28 (fun v hv => ?_)
  subst hv
  refine gw_get M hK hI hC i_Ci rfl 2 (by decide) f_As_72 rfl (Pv := fun v => ∃ x9 : Int64, v = .long x9) (fun x hx => by obtain ⟨u1, u2, q9⟩ := hx; exact ⟨_, _, q9, rfl, _, rfl⟩) d_As_maskCheck_31 (fun v hv => ?_)
  obtain ⟨x6, rfl⟩ := hv
  refine lv_lxor hx hb d_As_maskCheck_34 ?_
  refine lv_topl (fun x7 e_x7 => ?_)
  refine gw_put M hK hI hE i_Ch t_Ch tk_Ch n_Ch rfl 1 (by decide) f_As_128 rfl rfl rfl kCh (fun x hx => by obtain ⟨u1, u2, q9⟩ := hx; exact ⟨_, q9, Nat.le_of_ble_eq_true rfl, ⟨u1, _, rfl⟩⟩) d_As_maskCheck_35 (fun H locs hI => ?_)
  rw [gw_up_id hE] at hI
  exact gw_vret M hr hlo hI d_As_maskCheck_38 rfl

abbrev rm_Ch_take : Room := { frames := 0, cells := 0, slots := 0, locals := 0 }
set_option maxHeartbeats 4000000 in
set_option maxRecDepth 100000 in
theorem c_Ch_take (l : Launch) {D : gw_D} {Hs : Heap} {G : gw_G} (e2 : Nat) (i1 i2 : Int64) (hE : G e2 = some kCh) (a ci wi : Nat) (tt xt : Int32) (la : Int64) (li : Int32) (hA : G a = some (kAp ci wi tt xt la li)) : Met l y_Ch_take (Cond.code y_Ch_take b_Ch_take 19 none :: tb) rm_Ch_take (gw_Pc D Hs G [.ref e2, .ref a, .long i1, .long i2]) (gw_Qv D Hs (fun G1 => G1 = G)) 0 0 (gw_A Hs) := by
  refine gw_met (by decide) (Nat.le_of_ble_eq_true rfl) ?_
  intro p e s m args below meth c M hK hr hlo hin hI ls hl
  have hx := M.1
  have hb := M.2.1
  have hl : lv_has ls 19 [(0, .ref e2), (1, .ref a), (2, .long i1), (4, .long i2)] := hl
  refine lv_aload_n hx hb d_Ch_take_0 rfl (lv_at hl 0 rfl) ?_
  refine gw_get M hK hI hE i_Ch rfl 0 (by decide) f_Ch_9 rfl (Pv := fun v => ∃ x9 : Int64, v = .long x9) (fun x hx => by obtain ⟨u1, u2, q9⟩ := hx; exact ⟨_, _, q9, rfl, _, rfl⟩) d_Ch_take_1 (fun v hv => ?_)
  obtain ⟨x1, rfl⟩ := hv
  refine lv_lload_n hx hb d_Ch_take_4 rfl (lv_at hl 2 rfl) ?_
  refine lv_lxor hx hb d_Ch_take_5 ?_
  refine lv_topl (fun x2 e_x2 => ?_)
  refine lv_lstore (lv' := [(6, .long x2), (0, .ref e2), (1, .ref a), (2, .long i1), (4, .long i2)]) hx hb d_Ch_take_6 hl (by decide) rfl (fun ls hl => ?_)
  refine lv_aload_n hx hb d_Ch_take_8 rfl (lv_at hl 1 rfl) ?_
  refine gw_get M hK hI hE i_Ch rfl 1 (by decide) f_Ch_15 rfl (Pv := fun v => ∃ x9 : Int64, v = .long x9) (fun x hx => by obtain ⟨u1, u2, q9⟩ := hx; exact ⟨_, _, q9, rfl, _, rfl⟩) d_Ch_take_9 (fun v hv => ?_)
  obtain ⟨x3, rfl⟩ := hv
  refine lv_lload hx hb d_Ch_take_12 (lv_at hl 4 rfl) ?_
  refine lv_lxor hx hb d_Ch_take_14 ?_
  refine lv_topl (fun x4 e_x4 => ?_)
  refine lv_lstore (lv' := [(8, .long x4), (6, .long x2), (0, .ref e2), (1, .ref a), (2, .long i1), (4, .long i2)]) hx hb d_Ch_take_15 hl (by decide) rfl (fun ls hl => ?_)
  refine lv_aload_n hx hb d_Ch_take_17 rfl (lv_at hl 3 rfl) ?_
  refine gw_get M hK hI hA i_As rfl 5 (by decide) f_Ch_42 rfl (Pv := fun v => ∃ x9 : Int64, v = .long x9) (fun x hx => by obtain ⟨u3, u5, u6, u9, v1, v2, q9⟩ := hx; exact ⟨_, _, q9, rfl, _, rfl⟩) d_Ch_take_18 (fun v hv => ?_)
  obtain ⟨x5, rfl⟩ := hv
  refine lv_lstore (lv' := [(10, .long x5), (8, .long x4), (6, .long x2), (0, .ref e2), (1, .ref a), (2, .long i1), (4, .long i2)]) hx hb d_Ch_take_21 hl (by decide) rfl (fun ls hl => ?_)
  refine lv_aload_n hx hb d_Ch_take_23 rfl (lv_at hl 4 rfl) ?_
  refine gw_get M hK hI hA i_As rfl 6 (by decide) f_Ch_45 rfl (Pv := fun v => ∃ x9 : Int64, v = .long x9) (fun x hx => by obtain ⟨u3, u5, u6, u9, v1, v2, q9⟩ := hx; exact ⟨_, _, q9, rfl, _, rfl⟩) d_Ch_take_24 (fun v hv => ?_)
  obtain ⟨x6, rfl⟩ := hv
  refine lv_lstore (lv' := [(12, .long x6), (10, .long x5), (8, .long x4), (6, .long x2), (0, .ref e2), (1, .ref a), (2, .long i1), (4, .long i2)]) hx hb d_Ch_take_27 hl (by decide) rfl (fun ls hl => ?_)
  refine lv_aload_n hx hb d_Ch_take_29 rfl (lv_at hl 4 rfl) ?_
  refine lv_lconst (v := 0) hx hb d_Ch_take_30 (by decide) ?_
  refine gw_put M hK hI hE i_Ch t_Ch tk_Ch n_Ch rfl 0 (by decide) f_Ch_9 rfl rfl rfl kCh (fun x hx => by obtain ⟨u1, u2, q9⟩ := hx; exact ⟨_, q9, Nat.le_of_ble_eq_true rfl, ⟨_, u2, rfl⟩⟩) d_Ch_take_31 (fun H locs hI => ?_)
  rw [gw_up_id hE] at hI
  refine lv_aload_n hx hb d_Ch_take_34 rfl (lv_at hl 4 rfl) ?_
  refine lv_lconst (v := 0) hx hb d_Ch_take_35 (by decide) ?_
  refine gw_put M hK hI hE i_Ch t_Ch tk_Ch n_Ch rfl 1 (by decide) f_Ch_15 rfl rfl rfl kCh (fun x hx => by obtain ⟨u1, u2, q9⟩ := hx; exact ⟨_, q9, Nat.le_of_ble_eq_true rfl, ⟨u1, _, rfl⟩⟩) d_Ch_take_36 (fun H locs hI => ?_)
  rw [gw_up_id hE] at hI
  refine lv_iconst (v := 0) hx hb d_Ch_take_39 (by decide) ?_
  refine lv_istore (lv' := [(14, .int 0), (12, .long x6), (10, .long x5), (8, .long x4), (6, .long x2), (0, .ref e2), (1, .ref a), (2, .long i1), (4, .long i2)]) hx hb d_Ch_take_40 hl (by decide) rfl (fun ls hl => ?_)
  have L_42 : ∀ (n9 : Nat) (k : Nat) (y14 : Int32) (y12 : Int64) (y10 : Int64) (y8 : Int64) (y6 : Int64) (H : Heap) (locs : List Loc) (ls : Array Slot), k ≤ 128 → y14 = nI k → 128 - k < n9 → gw_I D Hs G s.heap H locs → lv_has ls 19 [(14, .int y14), (12, .long y12), (10, .long y10), (8, .long y8), (6, .long y6), (0, .ref e2), (1, .ref a), (2, .long i1), (4, .long i2)] → W p l e rm_Ch_take s m args below meth c H locs 0 0 (MQ below (gw_Qv D Hs (fun G1 => G1 = G)) args s 0 0 (gw_A Hs)) (F0 m 42 ls []) := by
    intro n9
    induction n9 with
    | zero =>
      intro k y14 y12 y10 y8 y6 H locs ls h8 hk hm hI hl
      exact absurd hm (Nat.not_lt_zero _)
    | succ n9 ih_42 =>
      intro k y14 y12 y10 y8 y6 H locs ls h8 hk hm_42 hI hl
      refine lv_iload hx hb d_Ch_take_42 (lv_at hl 0 rfl) ?_
      refine lv_sipush (v := 128) hx hb d_Ch_take_44 (by decide) ?_
      refine lv_icmp_ge (tgt := 150) hx hb d_Ch_take_47 (by decide) (fun c_47 => ?_) (fun c_47 => ?_)
      · exact gw_vret M hr hlo hI d_Ch_take_150 rfl
      · have hlt : k < 128 := nb_lt (n := 128) hk c_47 (by decide) (z_31 h8)
        have J_80 : ∀ (j80 : Int64) (H : Heap) (locs : List Loc) (ls : Array Slot), gw_I D Hs G s.heap H locs → lv_has ls 19 [(14, .int y14), (12, .long y12), (10, .long y10), (8, .long y8), (6, .long y6), (0, .ref e2), (1, .ref a), (2, .long i1), (4, .long i2)] → W p l e rm_Ch_take s m args below meth c H locs 0 0 (MQ below (gw_Qv D Hs (fun G1 => G1 = G)) args s 0 0 (gw_A Hs)) (F0 m 80 ls [.long j80]) := by
          intro j80 H locs ls  hI hl
          refine lv_lstore (lv' := [(15, .long j80), (14, .int y14), (12, .long y12), (10, .long y10), (8, .long y8), (6, .long y6), (0, .ref e2), (1, .ref a), (2, .long i1), (4, .long i2)]) hx hb d_Ch_take_80 hl (by decide) rfl (fun ls hl => ?_)
          refine lv_aload_n hx hb d_Ch_take_82 rfl (lv_at hl 6 rfl) ?_
          refine lv_dup hx hb d_Ch_take_83 rfl ?_
          refine gw_get M hK hI hE i_Ch rfl 0 (by decide) f_Ch_9 rfl (Pv := fun v => ∃ x9 : Int64, v = .long x9) (fun x hx => by obtain ⟨u1, u2, q9⟩ := hx; exact ⟨_, _, q9, rfl, _, rfl⟩) d_Ch_take_84 (fun v hv => ?_)
          obtain ⟨x7, rfl⟩ := hv
          refine lv_lload hx hb d_Ch_take_87 (lv_at hl 3 rfl) ?_
          refine lv_lload hx hb d_Ch_take_89 (lv_at hl 0 rfl) ?_
          refine lv_lneg hx hb d_Ch_take_91 ?_
          refine lv_land hx hb d_Ch_take_92 ?_
          refine lv_lxor hx hb d_Ch_take_93 ?_
          refine lv_topl (fun x8 e_x8 => ?_)
          refine gw_put M hK hI hE i_Ch t_Ch tk_Ch n_Ch rfl 0 (by decide) f_Ch_9 rfl rfl rfl kCh (fun x hx => by obtain ⟨u1, u2, q9⟩ := hx; exact ⟨_, q9, Nat.le_of_ble_eq_true rfl, ⟨_, u2, rfl⟩⟩) d_Ch_take_94 (fun H locs hI => ?_)
          rw [gw_up_id hE] at hI
          refine lv_aload_n hx hb d_Ch_take_97 rfl (lv_at hl 6 rfl) ?_
          refine lv_dup hx hb d_Ch_take_98 rfl ?_
          refine gw_get M hK hI hE i_Ch rfl 1 (by decide) f_Ch_15 rfl (Pv := fun v => ∃ x9 : Int64, v = .long x9) (fun x hx => by obtain ⟨u1, u2, q9⟩ := hx; exact ⟨_, _, q9, rfl, _, rfl⟩) d_Ch_take_99 (fun v hv => ?_)
          obtain ⟨x9, rfl⟩ := hv
          refine lv_lload hx hb d_Ch_take_102 (lv_at hl 2 rfl) ?_
          refine lv_lload hx hb d_Ch_take_104 (lv_at hl 0 rfl) ?_
          refine lv_lneg hx hb d_Ch_take_106 ?_
          refine lv_land hx hb d_Ch_take_107 ?_
          refine lv_lxor hx hb d_Ch_take_108 ?_
          refine lv_topl (fun x10 e_x10 => ?_)
          refine gw_put M hK hI hE i_Ch t_Ch tk_Ch n_Ch rfl 1 (by decide) f_Ch_15 rfl rfl rfl kCh (fun x hx => by obtain ⟨u1, u2, q9⟩ := hx; exact ⟨_, q9, Nat.le_of_ble_eq_true rfl, ⟨u1, _, rfl⟩⟩) d_Ch_take_109 (fun H locs hI => ?_)
          rw [gw_up_id hE] at hI
          refine lv_lload hx hb d_Ch_take_112 (lv_at hl 2 rfl) ?_
          refine lv_lconst (v := 1) hx hb d_Ch_take_114 (by decide) ?_
          refine lv_land hx hb d_Ch_take_115 ?_
          refine lv_topl (fun x11 e_x11 => ?_)
          refine lv_lstore (lv' := [(17, .long x11), (15, .long j80), (14, .int y14), (12, .long y12), (10, .long y10), (8, .long y8), (6, .long y6), (0, .ref e2), (1, .ref a), (2, .long i1), (4, .long i2)]) hx hb d_Ch_take_116 hl (by decide) rfl (fun ls hl => ?_)
          refine lv_lload hx hb d_Ch_take_118 (lv_at hl 3 rfl) ?_
          refine lv_iconst (v := 1) hx hb d_Ch_take_120 (by decide) ?_
          refine lv_lushr hx hb d_Ch_take_121 rfl ?_
          refine lv_lload hx hb d_Ch_take_122 (lv_at hl 4 rfl) ?_
          refine lv_bipush (v := 63) hx hb d_Ch_take_124 (by decide) ?_
          refine lv_lshl hx hb d_Ch_take_126 rfl ?_
          refine lv_lor hx hb d_Ch_take_127 ?_
          refine lv_topl (fun x12 e_x12 => ?_)
          refine lv_lstore (lv' := [(12, .long x12), (17, .long x11), (15, .long j80), (14, .int y14), (10, .long y10), (8, .long y8), (6, .long y6), (0, .ref e2), (1, .ref a), (2, .long i1), (4, .long i2)]) hx hb d_Ch_take_128 hl (by decide) rfl (fun ls hl => ?_)
          refine lv_lload hx hb d_Ch_take_130 (lv_at hl 4 rfl) ?_
          refine lv_iconst (v := 1) hx hb d_Ch_take_132 (by decide) ?_
          refine lv_lushr hx hb d_Ch_take_133 rfl ?_
          refine lv_ldc2 (v := (-2233785415175766016)) hx hb M.2.2.2.1 (M.2.2.2.2 _ o_Ch_48) d_Ch_take_134 ?_
          refine lv_lload hx hb d_Ch_take_137 (lv_at hl 1 rfl) ?_
          refine lv_lneg hx hb d_Ch_take_139 ?_
          refine lv_land hx hb d_Ch_take_140 ?_
          refine lv_lxor hx hb d_Ch_take_141 ?_
          refine lv_topl (fun x13 e_x13 => ?_)
          refine lv_lstore (lv' := [(10, .long x13), (12, .long x12), (17, .long x11), (15, .long j80), (14, .int y14), (8, .long y8), (6, .long y6), (0, .ref e2), (1, .ref a), (2, .long i1), (4, .long i2)]) hx hb d_Ch_take_142 hl (by decide) rfl (fun ls hl => ?_)
          obtain ⟨x14, e_x14⟩ : ∃ ww9 : Int32, ww9 = y14 + 1 := ⟨_, rfl⟩
          refine lv_iinc (v := x14) (lv' := [(14, .int x14), (10, .long x13), (12, .long x12), (17, .long x11), (15, .long j80), (8, .long y8), (6, .long y6), (0, .ref e2), (1, .ref a), (2, .long i1), (4, .long i2)]) hx hb d_Ch_take_144 hl (k := 4) rfl (by rw [e_x14]; rfl) (by decide) rfl (fun ls hl => ?_)
          refine lv_goto (tgt := 42) hx hb d_Ch_take_147 (by decide) ?_
          exact ih_42 (k + 1) x14 x12 x13 y8 y6 _ _ _ hlt (nb_s e_x14 hk) (z_m hm_42 hlt) hI (lv_sub hl [0, 2, 1, 5, 6, 7, 8, 9, 10] rfl)
        refine lv_iload hx hb d_Ch_take_50 (lv_at hl 0 rfl) ?_
        refine lv_bipush (v := 64) hx hb d_Ch_take_52 (by decide) ?_
        refine lv_icmp_ge (tgt := 70) hx hb d_Ch_take_54 (by decide) (fun c_54 => ?_) (fun c_54 => ?_)
        · refine lv_lload hx hb d_Ch_take_70 (lv_at hl 3 rfl) ?_
          refine lv_bipush (v := 127) hx hb d_Ch_take_72 (by decide) ?_
          refine lv_iload hx hb d_Ch_take_74 (lv_at hl 0 rfl) ?_
          refine lv_isub hx hb d_Ch_take_76 ?_
          refine lv_lushr hx hb d_Ch_take_77 rfl ?_
          refine lv_lconst (v := 1) hx hb d_Ch_take_78 (by decide) ?_
          refine lv_land hx hb d_Ch_take_79 ?_
          exact J_80 ((((y8).toUInt64 >>> ((((127 : Int32) - y14)).toInt64.toUInt64 &&& Int64.toUInt64 63)).toInt64) &&& (1 : Int64)) _ _ _  hI (lv_sub hl [0, 1, 2, 3, 4, 5, 6, 7, 8] rfl)
        · refine lv_lload hx hb d_Ch_take_57 (lv_at hl 4 rfl) ?_
          refine lv_bipush (v := 63) hx hb d_Ch_take_59 (by decide) ?_
          refine lv_iload hx hb d_Ch_take_61 (lv_at hl 0 rfl) ?_
          refine lv_isub hx hb d_Ch_take_63 ?_
          refine lv_lushr hx hb d_Ch_take_64 rfl ?_
          refine lv_lconst (v := 1) hx hb d_Ch_take_65 (by decide) ?_
          refine lv_land hx hb d_Ch_take_66 ?_
          refine lv_goto (tgt := 80) hx hb d_Ch_take_67 (by decide) ?_
          exact J_80 ((((y6).toUInt64 >>> ((((63 : Int32) - y14)).toInt64.toUInt64 &&& Int64.toUInt64 63)).toInt64) &&& (1 : Int64)) _ _ _  hI (lv_sub hl [0, 1, 2, 3, 4, 5, 6, 7, 8] rfl)
  exact L_42 _ 0 0 x6 x5 x4 x2 _ _ _ (Nat.zero_le _) rfl (Nat.lt_succ_self _) hI (lv_sub hl [0, 1, 2, 3, 4, 5, 6, 7, 8] rfl)
