abbrev rm_Mo_findf : Room := { frames := 0, cells := 0, slots := 0, locals := 0 }
set_option maxHeartbeats 4000000 in
set_option maxRecDepth 100000 in
theorem c_Mo_findf (l : Launch) {D : gw_D} {Hs : Heap} {G : gw_G} (o : Nat) (q : Nat → Nat) (B : Nat) (t0 : Int32) (f0 l0 g0 : Nat) (fu fn fx fi : Nat → Int32) (fl : Nat → Int64) (hM : mdl D G o q B t0 f0 l0 g0 fu fn fx fi fl) (n1 : Int32) (s1 : Nat) (hfi : isFi fu fn n1 s1) (hs1 : s1 < 16) : Met l y_Mo_find (Cond.code y_Mo_find b_Mo_find 3 (some .int) :: tb) rm_Mo_findf (gw_Pc D Hs G [.ref o, .int n1]) (gw_Qi D Hs (fun r G1 => r = nI s1 ∧ G1 = G)) 0 0 (gw_A Hs) := by
  refine gw_met (by decide) (Nat.le_of_ble_eq_true rfl) ?_
  intro p e s m args below meth c M hK hr hlo hin hI ls hl
  have hx := M.1
  have hb := M.2.1
  have hl : lv_has ls 3 [(0, .ref o), (1, .int n1)] := hl
  have hf : gw_fr (mown o q) G G := gw_fr.rf
  refine lv_iconst (v := 0) hx hb d_Mo_find_0 (by decide) ?_
  refine lv_istore_n (lv' := [(2, .int 0), (0, .ref o), (1, .int n1)]) hx hb d_Mo_find_1 rfl hl (by decide) rfl (fun ls hl => ?_)
  have L_2 : ∀ (n9 : Nat) (k : Nat) (y2 : Int32) (H : Heap) (locs : List Loc) (ls : Array Slot), k ≤ s1 → y2 = nI k → s1 - k < n9 → gw_I D Hs G s.heap H locs → lv_has ls 3 [(2, .int y2), (0, .ref o), (1, .int n1)] → W p l e rm_Mo_findf s m args below meth c H locs 0 0 (MQ below (gw_Qi D Hs (fun r G1 => r = nI s1 ∧ G1 = G)) args s 0 0 (gw_A Hs)) (F0 m 2 ls []) := by
    intro n9
    induction n9 with
    | zero =>
      intro k y2 H locs ls bk hk hm hI hl
      exact absurd hm (Nat.not_lt_zero _)
    | succ n9 ih_2 =>
      intro k y2 H locs ls bk hk hm_2 hI hl
      refine lv_iload_n hx hb d_Mo_find_2 rfl (lv_at hl 0 rfl) ?_
      refine lv_bipush (v := 16) hx hb d_Mo_find_3 (by decide) ?_
      refine lv_icmp_ge (tgt := 35) hx hb d_Mo_find_5 (by decide) (fun q9 => absurd q9 (fun h9 => by have h8 := nb_ge (n := 16) hk h9 (by decide) (by omega); omega)) (fun c_5 => ?_)
      refine lv_aload_n hx hb d_Mo_find_8 rfl (lv_at hl 1 rfl) ?_
      refine gw_get M hK hI hM.O i_Mo rfl 2 (by decide) f_Mo_13 rfl (Pv := fun v => v = .ref (q 2)) (fun x hx => ⟨_, _, hx, rfl, rfl⟩) d_Mo_find_9 (fun v hv => ?_)
      subst hv
      refine lv_iload_n hx hb d_Mo_find_12 rfl (lv_at hl 0 rfl) ?_
      refine gw_zaldx M hK hI hM.k2 (nb_in hk (by omega)) d_Mo_find_13 ?_
      rw [show (y2).toNatClampNeg = k from (nb_cl hk)]
      refine lv_if_eq (tgt := 29) hx hb d_Mo_find_14 (by decide) (fun c_14 => ?_) (fun c_14 => ?_)
      · have lk : k < s1 := by
          rcases Nat.lt_or_ge k s1 with q9 | q9
          · exact q9
          · exact absurd c_14 (by rw [show k = s1 from by omega]; exact (hfi.2.2 hs1).1)
        obtain ⟨x1, e_x1⟩ : ∃ ww9 : Int32, ww9 = y2 + 1 := ⟨_, rfl⟩
        refine lv_iinc (v := x1) (lv' := [(2, .int x1), (0, .ref o), (1, .int n1)]) hx hb d_Mo_find_29 hl (k := 0) rfl (by rw [e_x1]; rfl) (by decide) rfl (fun ls hl => ?_)
        refine lv_goto (tgt := 2) hx hb d_Mo_find_32 (by decide) ?_
        exact ih_2 (k + 1) x1 _ _ _ lk (nb_s e_x1 hk) (z_m hm_2 lk) hI (lv_sub hl [0, 1, 2] rfl)
      · refine lv_aload_n hx hb d_Mo_find_17 rfl (lv_at hl 1 rfl) ?_
        refine gw_get M hK hI hM.O i_Mo rfl 3 (by decide) f_Mo_17 rfl (Pv := fun v => v = .ref (q 3)) (fun x hx => ⟨_, _, hx, rfl, rfl⟩) d_Mo_find_18 (fun v hv => ?_)
        subst hv
        refine lv_iload_n hx hb d_Mo_find_21 rfl (lv_at hl 0 rfl) ?_
        refine gw_ialdx M hK hI hM.k3 (nb_in hk (by omega)) d_Mo_find_22 ?_
        rw [show (y2).toNatClampNeg = k from (nb_cl hk)]
        refine lv_iload_n hx hb d_Mo_find_23 rfl (lv_at hl 2 rfl) ?_
        refine lv_icmp_ne (tgt := 29) hx hb d_Mo_find_24 (by decide) (fun c_24 => ?_) (fun c_24 => ?_)
        · have lk : k < s1 := by
            rcases Nat.lt_or_ge k s1 with q9 | q9
            · exact q9
            · exact absurd (by rw [show k = s1 from by omega]; exact (hfi.2.2 hs1).2) c_24
          obtain ⟨x2, e_x2⟩ : ∃ ww9 : Int32, ww9 = y2 + 1 := ⟨_, rfl⟩
          refine lv_iinc (v := x2) (lv' := [(2, .int x2), (0, .ref o), (1, .int n1)]) hx hb d_Mo_find_29 hl (k := 0) rfl (by rw [e_x2]; rfl) (by decide) rfl (fun ls hl => ?_)
          refine lv_goto (tgt := 2) hx hb d_Mo_find_32 (by decide) ?_
          exact ih_2 (k + 1) x2 _ _ _ lk (nb_s e_x2 hk) (z_m hm_2 lk) hI (lv_sub hl [0, 1, 2] rfl)
        · have hks : k = s1 := by
            rcases Nat.lt_or_ge k s1 with q9 | q9
            · exact absurd ⟨c_14, c_24⟩ (hfi.2.1 k q9)
            · omega
          refine lv_iload_n hx hb d_Mo_find_27 rfl (lv_at hl 0 rfl) ?_
          exact gw_iret M hr hlo hI d_Mo_find_28 (⟨by rw [hk, hks], rfl⟩)
  exact L_2 _ 0 0 _ _ _ (Nat.zero_le _) rfl (Nat.lt_succ_self _) hI (lv_sub hl [0, 1, 2] rfl)

abbrev rm_Mo_findn : Room := { frames := 0, cells := 0, slots := 0, locals := 0 }
set_option maxHeartbeats 4000000 in
set_option maxRecDepth 100000 in
theorem c_Mo_findn (l : Launch) {D : gw_D} {Hs : Heap} {G : gw_G} (o : Nat) (q : Nat → Nat) (B : Nat) (t0 : Int32) (f0 l0 g0 : Nat) (fu fn fx fi : Nat → Int32) (fl : Nat → Int64) (hM : mdl D G o q B t0 f0 l0 g0 fu fn fx fi fl) (n1 : Int32) (hfi : ∀ j, j < 16 → ¬ (¬ fu j = 0 ∧ fn j = n1)) : Met l y_Mo_find (Cond.code y_Mo_find b_Mo_find 3 (some .int) :: tb) rm_Mo_findn (gw_Pc D Hs G [.ref o, .int n1]) (gw_Qi D Hs (fun r G1 => r = -1 ∧ G1 = G)) 0 0 (gw_A Hs) := by
  refine gw_met (by decide) (Nat.le_of_ble_eq_true rfl) ?_
  intro p e s m args below meth c M hK hr hlo hin hI ls hl
  have hx := M.1
  have hb := M.2.1
  have hl : lv_has ls 3 [(0, .ref o), (1, .int n1)] := hl
  have hf : gw_fr (mown o q) G G := gw_fr.rf
  refine lv_iconst (v := 0) hx hb d_Mo_find_0 (by decide) ?_
  refine lv_istore_n (lv' := [(2, .int 0), (0, .ref o), (1, .int n1)]) hx hb d_Mo_find_1 rfl hl (by decide) rfl (fun ls hl => ?_)
  have L_2 : ∀ (n9 : Nat) (k : Nat) (y2 : Int32) (H : Heap) (locs : List Loc) (ls : Array Slot), k ≤ 16 → y2 = nI k → 16 - k < n9 → gw_I D Hs G s.heap H locs → lv_has ls 3 [(2, .int y2), (0, .ref o), (1, .int n1)] → W p l e rm_Mo_findn s m args below meth c H locs 0 0 (MQ below (gw_Qi D Hs (fun r G1 => r = -1 ∧ G1 = G)) args s 0 0 (gw_A Hs)) (F0 m 2 ls []) := by
    intro n9
    induction n9 with
    | zero =>
      intro k y2 H locs ls bk hk hm hI hl
      exact absurd hm (Nat.not_lt_zero _)
    | succ n9 ih_2 =>
      intro k y2 H locs ls bk hk hm_2 hI hl
      refine lv_iload_n hx hb d_Mo_find_2 rfl (lv_at hl 0 rfl) ?_
      refine lv_bipush (v := 16) hx hb d_Mo_find_3 (by decide) ?_
      refine lv_icmp_ge (tgt := 35) hx hb d_Mo_find_5 (by decide) (fun c_5 => ?_) (fun c_5 => ?_)
      · refine lv_iconst (v := (-1)) hx hb d_Mo_find_35 (by decide) ?_
        exact gw_iret M hr hlo hI d_Mo_find_36 (⟨rfl, rfl⟩)
      · have lk : k < 16 := nb_lt (n := 16) hk c_5 (by decide) (z_31 bk)
        refine lv_aload_n hx hb d_Mo_find_8 rfl (lv_at hl 1 rfl) ?_
        refine gw_get M hK hI hM.O i_Mo rfl 2 (by decide) f_Mo_13 rfl (Pv := fun v => v = .ref (q 2)) (fun x hx => ⟨_, _, hx, rfl, rfl⟩) d_Mo_find_9 (fun v hv => ?_)
        subst hv
        refine lv_iload_n hx hb d_Mo_find_12 rfl (lv_at hl 0 rfl) ?_
        refine gw_zaldx M hK hI hM.k2 (nb_in hk lk) d_Mo_find_13 ?_
        rw [show (y2).toNatClampNeg = k from (nb_cl hk)]
        refine lv_if_eq (tgt := 29) hx hb d_Mo_find_14 (by decide) (fun c_14 => ?_) (fun c_14 => ?_)
        · obtain ⟨x1, e_x1⟩ : ∃ ww9 : Int32, ww9 = y2 + 1 := ⟨_, rfl⟩
          refine lv_iinc (v := x1) (lv' := [(2, .int x1), (0, .ref o), (1, .int n1)]) hx hb d_Mo_find_29 hl (k := 0) rfl (by rw [e_x1]; rfl) (by decide) rfl (fun ls hl => ?_)
          refine lv_goto (tgt := 2) hx hb d_Mo_find_32 (by decide) ?_
          exact ih_2 (k + 1) x1 _ _ _ lk (nb_s e_x1 hk) (z_m hm_2 lk) hI (lv_sub hl [0, 1, 2] rfl)
        · refine lv_aload_n hx hb d_Mo_find_17 rfl (lv_at hl 1 rfl) ?_
          refine gw_get M hK hI hM.O i_Mo rfl 3 (by decide) f_Mo_17 rfl (Pv := fun v => v = .ref (q 3)) (fun x hx => ⟨_, _, hx, rfl, rfl⟩) d_Mo_find_18 (fun v hv => ?_)
          subst hv
          refine lv_iload_n hx hb d_Mo_find_21 rfl (lv_at hl 0 rfl) ?_
          refine gw_ialdx M hK hI hM.k3 (nb_in hk lk) d_Mo_find_22 ?_
          rw [show (y2).toNatClampNeg = k from (nb_cl hk)]
          refine lv_iload_n hx hb d_Mo_find_23 rfl (lv_at hl 2 rfl) ?_
          refine lv_icmp_ne (tgt := 29) hx hb d_Mo_find_24 (by decide) (fun c_24 => ?_) (fun q9 => absurd q9 (fun h9 => hfi k lk ⟨c_14, h9⟩))
          obtain ⟨x2, e_x2⟩ : ∃ ww9 : Int32, ww9 = y2 + 1 := ⟨_, rfl⟩
          refine lv_iinc (v := x2) (lv' := [(2, .int x2), (0, .ref o), (1, .int n1)]) hx hb d_Mo_find_29 hl (k := 0) rfl (by rw [e_x2]; rfl) (by decide) rfl (fun ls hl => ?_)
          refine lv_goto (tgt := 2) hx hb d_Mo_find_32 (by decide) ?_
          exact ih_2 (k + 1) x2 _ _ _ lk (nb_s e_x2 hk) (z_m hm_2 lk) hI (lv_sub hl [0, 1, 2] rfl)
  exact L_2 _ 0 0 _ _ _ (Nat.zero_le _) rfl (Nat.lt_succ_self _) hI (lv_sub hl [0, 1, 2] rfl)

abbrev rm_Mo_finda : Room := { frames := 0, cells := 0, slots := 0, locals := 0 }
set_option maxHeartbeats 4000000 in
set_option maxRecDepth 100000 in
theorem c_Mo_finda (l : Launch) {D : gw_D} {Hs : Heap} {G : gw_G} (o : Nat) (q : Nat → Nat) (B : Nat) (t0 : Int32) (f0 l0 g0 : Nat) (fu fn fx fi : Nat → Int32) (fl : Nat → Int64) (hM : mdl D G o q B t0 f0 l0 g0 fu fn fx fi fl) (n1 : Int32) : Met l y_Mo_find (Cond.code y_Mo_find b_Mo_find 3 (some .int) :: tb) rm_Mo_finda (gw_Pc D Hs G [.ref o, .int n1]) (gw_Qi D Hs (fun r G1 => (r = -1 ∨ ∃ s, s < 16 ∧ r = nI s) ∧ G1 = G)) 0 0 (gw_A Hs) := by
  refine gw_met (by decide) (Nat.le_of_ble_eq_true rfl) ?_
  intro p e s m args below meth c M hK hr hlo hin hI ls hl
  have hx := M.1
  have hb := M.2.1
  have hl : lv_has ls 3 [(0, .ref o), (1, .int n1)] := hl
  have hf : gw_fr (mown o q) G G := gw_fr.rf
  refine lv_iconst (v := 0) hx hb d_Mo_find_0 (by decide) ?_
  refine lv_istore_n (lv' := [(2, .int 0), (0, .ref o), (1, .int n1)]) hx hb d_Mo_find_1 rfl hl (by decide) rfl (fun ls hl => ?_)
  have L_2 : ∀ (n9 : Nat) (k : Nat) (y2 : Int32) (H : Heap) (locs : List Loc) (ls : Array Slot), k ≤ 16 → y2 = nI k → 16 - k < n9 → gw_I D Hs G s.heap H locs → lv_has ls 3 [(2, .int y2), (0, .ref o), (1, .int n1)] → W p l e rm_Mo_finda s m args below meth c H locs 0 0 (MQ below (gw_Qi D Hs (fun r G1 => (r = -1 ∨ ∃ s, s < 16 ∧ r = nI s) ∧ G1 = G)) args s 0 0 (gw_A Hs)) (F0 m 2 ls []) := by
    intro n9
    induction n9 with
    | zero =>
      intro k y2 H locs ls bk hk hm hI hl
      exact absurd hm (Nat.not_lt_zero _)
    | succ n9 ih_2 =>
      intro k y2 H locs ls bk hk hm_2 hI hl
      refine lv_iload_n hx hb d_Mo_find_2 rfl (lv_at hl 0 rfl) ?_
      refine lv_bipush (v := 16) hx hb d_Mo_find_3 (by decide) ?_
      refine lv_icmp_ge (tgt := 35) hx hb d_Mo_find_5 (by decide) (fun c_5 => ?_) (fun c_5 => ?_)
      · refine lv_iconst (v := (-1)) hx hb d_Mo_find_35 (by decide) ?_
        exact gw_iret M hr hlo hI d_Mo_find_36 (⟨Or.inl rfl, rfl⟩)
      · have lk : k < 16 := nb_lt (n := 16) hk c_5 (by decide) (z_31 bk)
        refine lv_aload_n hx hb d_Mo_find_8 rfl (lv_at hl 1 rfl) ?_
        refine gw_get M hK hI hM.O i_Mo rfl 2 (by decide) f_Mo_13 rfl (Pv := fun v => v = .ref (q 2)) (fun x hx => ⟨_, _, hx, rfl, rfl⟩) d_Mo_find_9 (fun v hv => ?_)
        subst hv
        refine lv_iload_n hx hb d_Mo_find_12 rfl (lv_at hl 0 rfl) ?_
        refine gw_zaldx M hK hI hM.k2 (nb_in hk lk) d_Mo_find_13 ?_
        rw [show (y2).toNatClampNeg = k from (nb_cl hk)]
        refine lv_if_eq (tgt := 29) hx hb d_Mo_find_14 (by decide) (fun c_14 => ?_) (fun c_14 => ?_)
        · obtain ⟨x1, e_x1⟩ : ∃ ww9 : Int32, ww9 = y2 + 1 := ⟨_, rfl⟩
          refine lv_iinc (v := x1) (lv' := [(2, .int x1), (0, .ref o), (1, .int n1)]) hx hb d_Mo_find_29 hl (k := 0) rfl (by rw [e_x1]; rfl) (by decide) rfl (fun ls hl => ?_)
          refine lv_goto (tgt := 2) hx hb d_Mo_find_32 (by decide) ?_
          exact ih_2 (k + 1) x1 _ _ _ lk (nb_s e_x1 hk) (z_m hm_2 lk) hI (lv_sub hl [0, 1, 2] rfl)
        · refine lv_aload_n hx hb d_Mo_find_17 rfl (lv_at hl 1 rfl) ?_
          refine gw_get M hK hI hM.O i_Mo rfl 3 (by decide) f_Mo_17 rfl (Pv := fun v => v = .ref (q 3)) (fun x hx => ⟨_, _, hx, rfl, rfl⟩) d_Mo_find_18 (fun v hv => ?_)
          subst hv
          refine lv_iload_n hx hb d_Mo_find_21 rfl (lv_at hl 0 rfl) ?_
          refine gw_ialdx M hK hI hM.k3 (nb_in hk lk) d_Mo_find_22 ?_
          rw [show (y2).toNatClampNeg = k from (nb_cl hk)]
          refine lv_iload_n hx hb d_Mo_find_23 rfl (lv_at hl 2 rfl) ?_
          refine lv_icmp_ne (tgt := 29) hx hb d_Mo_find_24 (by decide) (fun c_24 => ?_) (fun c_24 => ?_)
          · obtain ⟨x2, e_x2⟩ : ∃ ww9 : Int32, ww9 = y2 + 1 := ⟨_, rfl⟩
            refine lv_iinc (v := x2) (lv' := [(2, .int x2), (0, .ref o), (1, .int n1)]) hx hb d_Mo_find_29 hl (k := 0) rfl (by rw [e_x2]; rfl) (by decide) rfl (fun ls hl => ?_)
            refine lv_goto (tgt := 2) hx hb d_Mo_find_32 (by decide) ?_
            exact ih_2 (k + 1) x2 _ _ _ lk (nb_s e_x2 hk) (z_m hm_2 lk) hI (lv_sub hl [0, 1, 2] rfl)
          · refine lv_iload_n hx hb d_Mo_find_27 rfl (lv_at hl 0 rfl) ?_
            exact gw_iret M hr hlo hI d_Mo_find_28 (⟨Or.inr ⟨k, lk, hk⟩, rfl⟩)
  exact L_2 _ 0 0 _ _ _ (Nat.zero_le _) rfl (Nat.lt_succ_self _) hI (lv_sub hl [0, 1, 2] rfl)

abbrev rm_Mo_greatest : Room := { frames := 0, cells := 0, slots := 0, locals := 0 }
set_option maxHeartbeats 4000000 in
set_option maxRecDepth 100000 in
theorem c_Mo_greatest (l : Launch) {D : gw_D} {Hs : Heap} {G : gw_G} (o : Nat) (q : Nat → Nat) (B : Nat) (t0 : Int32) (f0 l0 g0 : Nat) (fu fn fx fi : Nat → Int32) (fl : Nat → Int64) (hM : mdl D G o q B t0 f0 l0 g0 fu fn fx fi fl) (a1 : Int32) (s1 : Nat) (ha1 : a1 = nI s1) (hs1 : s1 < 16) : Met l y_Mo_greatest (Cond.code y_Mo_greatest b_Mo_greatest 2 (some .long) :: tb) rm_Mo_greatest (gw_Pc D Hs G [.ref o, .int a1]) (gw_Ql D Hs (fun r G1 => r = gre (fx s1) ∧ G1 = G)) 0 0 (gw_A Hs) := by
  refine gw_met (by decide) (Nat.le_of_ble_eq_true rfl) ?_
  intro p e s m args below meth c M hK hr hlo hin hI ls hl
  have hx := M.1
  have hb := M.2.1
  have hl : lv_has ls 2 [(0, .ref o), (1, .int a1)] := hl
  have hf : gw_fr (mown o q) G G := gw_fr.rf
  refine lv_aload_n hx hb d_Mo_greatest_0 rfl (lv_at hl 0 rfl) ?_
  refine gw_get M hK hI hM.O i_Mo rfl 7 (by decide) f_Mo_29 rfl (Pv := fun v => v = .ref (q 7)) (fun x hx => ⟨_, _, hx, rfl, rfl⟩) d_Mo_greatest_1 (fun v hv => ?_)
  subst hv
  refine lv_iload_n hx hb d_Mo_greatest_4 rfl (lv_at hl 1 rfl) ?_
  refine gw_zaldx M hK hI hM.k7 (nb_in ha1 hs1) d_Mo_greatest_5 ?_
  rw [show (a1).toNatClampNeg = s1 from (nb_cl ha1)]
  refine lv_if_eq (tgt := 15) hx hb d_Mo_greatest_6 (by decide) (fun c_6 => ?_) (fun c_6 => ?_)
  · refine lv_ldc2 (v := 4294967295) hx hb M.2.2.2.1 (M.2.2.2.2 _ o_Mo_133) d_Mo_greatest_15 ?_
    exact gw_lret M hr hlo hI d_Mo_greatest_18 (⟨(if_pos c_6).symm, rfl⟩)
  · refine lv_ldc2 (v := 9223372036854775807) hx hb M.2.2.2.1 (M.2.2.2.2 _ o_Mo_131) d_Mo_greatest_9 ?_
    refine lv_goto (tgt := 18) hx hb d_Mo_greatest_12 (by decide) ?_
    exact gw_lret M hr hlo hI d_Mo_greatest_18 (⟨(if_neg c_6).symm, rfl⟩)

abbrev rm_Mo_addb : Room := { frames := 2, cells := 0, slots := 0, locals := 53 }
set_option maxHeartbeats 4000000 in
set_option maxRecDepth 100000 in
theorem c_Mo_addb (l : Launch) {D : gw_D} {Hs : Heap} {G : gw_G} (o : Nat) (q : Nat → Nat) (B : Nat) (t0 : Int32) (f0 l0 g0 : Nat) (fu fn fx fi : Nat → Int32) (fl : Nat → Int64) (hM : mdl D G o q B t0 f0 l0 g0 fu fn fx fi fl) (n1 : Int32) (kh kl : Int64) (n6 n7 n8 : Int32) (hbad : n1 < 256 ∨ ¬ okW n7) : Met l y_Mo_add (Cond.code y_Mo_add b_Mo_add 10 (some .boolean) :: tb) rm_Mo_addb (gw_Pc D Hs G [.ref o, .int n1, .long kh, .long kl, .int n6, .int n7, .int n8]) (gw_Qi D Hs (fun r G1 => r = 0 ∧ mdl D G1 o q B 1 f0 l0 g0 fu fn fx fi fl ∧ gw_fr (mown o q) G G1)) 0 0 (gw_A Hs) := by
  refine gw_met (by decide) (Nat.le_of_ble_eq_true rfl) ?_
  intro p e s m args below meth c M hK hr hlo hin hI ls hl
  have hx := M.1
  have hb := M.2.1
  have hl : lv_has ls 10 [(0, .ref o), (1, .int n1), (2, .long kh), (4, .long kl), (6, .int n6), (7, .int n7), (8, .int n8)] := hl
  have hf : gw_fr (mown o q) G G := gw_fr.rf
  refine lv_aload_n hx hb d_Mo_add_0 rfl (lv_at hl 0 rfl) ?_
  refine lv_iload_n hx hb d_Mo_add_1 rfl (lv_at hl 1 rfl) ?_
  refine lv_sipush (v := 256) hx hb d_Mo_add_2 (by decide) ?_
  refine lv_icmp_lt (tgt := 31) hx hb d_Mo_add_5 (by decide) (fun c_5 => ?_) (fun c_5 => ?_)
  · refine lv_iconst (v := 1) hx hb d_Mo_add_31 (by decide) ?_
    refine lv_goto (tgt := 36) hx hb d_Mo_add_32 (by decide) ?_
    refine gw_put M hK hI hM.O i_Mo t_Mo tk_Mo n_Mo rfl 0 (by decide) f_Mo_94 rfl rfl rfl (kx (mo_ob q 1 (nI f0) (nI l0) (nI g0))) (fun x hx => ⟨_, hx, Nat.le_of_ble_eq_true rfl, rfl⟩) d_Mo_add_36 (fun H locs hI => ?_)
    obtain ⟨G1, hE_G1⟩ : ∃ z9, gw_up G o (kx (mo_ob q 1 (nI f0) (nI l0) (nI g0))) = z9 := ⟨_, rfl⟩
    rw [hE_G1] at hI
    have hf : gw_fr (mown o q) G G1 := hf.tr (by rw [← hE_G1]; exact gw_fr.up (Or.inl rfl))
    have hM : mdl D G1 o q B 1 f0 l0 g0 fu fn fx fi fl := by rw [← hE_G1]; exact hM.ob hM.f200 hM.l236 hM.g204
    refine lv_aload_n hx hb d_Mo_add_39 rfl (lv_at hl 0 rfl) ?_
    refine gw_get M hK hI hM.O i_Mo rfl 0 (by decide) f_Mo_94 rfl (Pv := fun v => v = .int 1) (fun x hx => ⟨_, _, hx, rfl, rfl⟩) d_Mo_add_40 (fun v hv => ?_)
    subst hv
    refine lv_if_gt (tgt := 54) hx hb d_Mo_add_43 (by decide) (fun c_43 => ?_) (fun q9 => absurd (by decide) q9)
    refine lv_iconst (v := 0) hx hb d_Mo_add_54 (by decide) ?_
    exact gw_zret M hr rfl hlo hI d_Mo_add_55 (⟨rfl, hM, hf⟩)
  · refine lv_iload hx hb d_Mo_add_8 (lv_at hl 5 rfl) ?_
    refine lv_bipush (v := 32) hx hb d_Mo_add_10 (by decide) ?_
    refine lv_icmp_lt (tgt := 31) hx hb d_Mo_add_12 (by decide) (fun c_12 => ?_) (fun c_12 => ?_)
    · refine lv_iconst (v := 1) hx hb d_Mo_add_31 (by decide) ?_
      refine lv_goto (tgt := 36) hx hb d_Mo_add_32 (by decide) ?_
      refine gw_put M hK hI hM.O i_Mo t_Mo tk_Mo n_Mo rfl 0 (by decide) f_Mo_94 rfl rfl rfl (kx (mo_ob q 1 (nI f0) (nI l0) (nI g0))) (fun x hx => ⟨_, hx, Nat.le_of_ble_eq_true rfl, rfl⟩) d_Mo_add_36 (fun H locs hI => ?_)
      obtain ⟨G2, hE_G2⟩ : ∃ z9, gw_up G o (kx (mo_ob q 1 (nI f0) (nI l0) (nI g0))) = z9 := ⟨_, rfl⟩
      rw [hE_G2] at hI
      have hf : gw_fr (mown o q) G G2 := hf.tr (by rw [← hE_G2]; exact gw_fr.up (Or.inl rfl))
      have hM : mdl D G2 o q B 1 f0 l0 g0 fu fn fx fi fl := by rw [← hE_G2]; exact hM.ob hM.f200 hM.l236 hM.g204
      refine lv_aload_n hx hb d_Mo_add_39 rfl (lv_at hl 0 rfl) ?_
      refine gw_get M hK hI hM.O i_Mo rfl 0 (by decide) f_Mo_94 rfl (Pv := fun v => v = .int 1) (fun x hx => ⟨_, _, hx, rfl, rfl⟩) d_Mo_add_40 (fun v hv => ?_)
      subst hv
      refine lv_if_gt (tgt := 54) hx hb d_Mo_add_43 (by decide) (fun c_43 => ?_) (fun q9 => absurd (by decide) q9)
      refine lv_iconst (v := 0) hx hb d_Mo_add_54 (by decide) ?_
      exact gw_zret M hr rfl hlo hI d_Mo_add_55 (⟨rfl, hM, hf⟩)
    · refine lv_iload hx hb d_Mo_add_15 (lv_at hl 5 rfl) ?_
      refine lv_sipush (v := 1024) hx hb d_Mo_add_17 (by decide) ?_
      refine lv_icmp_gt (tgt := 31) hx hb d_Mo_add_20 (by decide) (fun c_20 => ?_) (fun c_20 => ?_)
      · refine lv_iconst (v := 1) hx hb d_Mo_add_31 (by decide) ?_
        refine lv_goto (tgt := 36) hx hb d_Mo_add_32 (by decide) ?_
        refine gw_put M hK hI hM.O i_Mo t_Mo tk_Mo n_Mo rfl 0 (by decide) f_Mo_94 rfl rfl rfl (kx (mo_ob q 1 (nI f0) (nI l0) (nI g0))) (fun x hx => ⟨_, hx, Nat.le_of_ble_eq_true rfl, rfl⟩) d_Mo_add_36 (fun H locs hI => ?_)
        obtain ⟨G3, hE_G3⟩ : ∃ z9, gw_up G o (kx (mo_ob q 1 (nI f0) (nI l0) (nI g0))) = z9 := ⟨_, rfl⟩
        rw [hE_G3] at hI
        have hf : gw_fr (mown o q) G G3 := hf.tr (by rw [← hE_G3]; exact gw_fr.up (Or.inl rfl))
        have hM : mdl D G3 o q B 1 f0 l0 g0 fu fn fx fi fl := by rw [← hE_G3]; exact hM.ob hM.f200 hM.l236 hM.g204
        refine lv_aload_n hx hb d_Mo_add_39 rfl (lv_at hl 0 rfl) ?_
        refine gw_get M hK hI hM.O i_Mo rfl 0 (by decide) f_Mo_94 rfl (Pv := fun v => v = .int 1) (fun x hx => ⟨_, _, hx, rfl, rfl⟩) d_Mo_add_40 (fun v hv => ?_)
        subst hv
        refine lv_if_gt (tgt := 54) hx hb d_Mo_add_43 (by decide) (fun c_43 => ?_) (fun q9 => absurd (by decide) q9)
        refine lv_iconst (v := 0) hx hb d_Mo_add_54 (by decide) ?_
        exact gw_zret M hr rfl hlo hI d_Mo_add_55 (⟨rfl, hM, hf⟩)
      · refine lv_iload hx hb d_Mo_add_23 (lv_at hl 5 rfl) ?_
        refine lv_bipush (v := 32) hx hb d_Mo_add_25 (by decide) ?_
        refine lv_irem hx hb d_Mo_add_27 (by decide) ?_
        refine lv_if_eq (tgt := 35) hx hb d_Mo_add_28 (by decide) (fun q9 => absurd q9 (fun h9 => hbad.elim c_5 (fun q9 => q9 ⟨c_12, c_20, h9⟩))) (fun c_28 => ?_)
        refine lv_iconst (v := 1) hx hb d_Mo_add_31 (by decide) ?_
        refine lv_goto (tgt := 36) hx hb d_Mo_add_32 (by decide) ?_
        refine gw_put M hK hI hM.O i_Mo t_Mo tk_Mo n_Mo rfl 0 (by decide) f_Mo_94 rfl rfl rfl (kx (mo_ob q 1 (nI f0) (nI l0) (nI g0))) (fun x hx => ⟨_, hx, Nat.le_of_ble_eq_true rfl, rfl⟩) d_Mo_add_36 (fun H locs hI => ?_)
        obtain ⟨G4, hE_G4⟩ : ∃ z9, gw_up G o (kx (mo_ob q 1 (nI f0) (nI l0) (nI g0))) = z9 := ⟨_, rfl⟩
        rw [hE_G4] at hI
        have hf : gw_fr (mown o q) G G4 := hf.tr (by rw [← hE_G4]; exact gw_fr.up (Or.inl rfl))
        have hM : mdl D G4 o q B 1 f0 l0 g0 fu fn fx fi fl := by rw [← hE_G4]; exact hM.ob hM.f200 hM.l236 hM.g204
        refine lv_aload_n hx hb d_Mo_add_39 rfl (lv_at hl 0 rfl) ?_
        refine gw_get M hK hI hM.O i_Mo rfl 0 (by decide) f_Mo_94 rfl (Pv := fun v => v = .int 1) (fun x hx => ⟨_, _, hx, rfl, rfl⟩) d_Mo_add_40 (fun v hv => ?_)
        subst hv
        refine lv_if_gt (tgt := 54) hx hb d_Mo_add_43 (by decide) (fun c_43 => ?_) (fun q9 => absurd (by decide) q9)
        refine lv_iconst (v := 0) hx hb d_Mo_add_54 (by decide) ?_
        exact gw_zret M hr rfl hlo hI d_Mo_add_55 (⟨rfl, hM, hf⟩)

abbrev rm_Mo_addk : Room := { frames := 2, cells := 0, slots := 0, locals := 53 }
set_option maxHeartbeats 4000000 in
set_option maxRecDepth 100000 in
theorem c_Mo_addk (l : Launch) {D : gw_D} {Hs : Heap} {G : gw_G} (o : Nat) (q : Nat → Nat) (B : Nat) (t0 : Int32) (f0 l0 g0 : Nat) (fu fn fx fi : Nat → Int32) (fl : Nat → Int64) (hM : mdl D G o q B t0 f0 l0 g0 fu fn fx fi fl) (n1 : Int32) (kh kl : Int64) (n6 n7 n8 : Int32) (hok : ¬ n1 < 256 ∧ okW n7) (s1 : Nat) (hfi : isFi fu fn n1 s1) (hs1 : s1 < 16) : Met l y_Mo_add (Cond.code y_Mo_add b_Mo_add 10 (some .boolean) :: tb) rm_Mo_addk (gw_Pc D Hs G [.ref o, .int n1, .long kh, .long kl, .int n6, .int n7, .int n8]) (gw_Qi D Hs (fun r G1 => r = 0 ∧ mdl D G1 o q B 0 f0 l0 g0 fu fn fx fi fl ∧ gw_fr (mown o q) G G1)) 0 0 (gw_A Hs) := by
  refine gw_met (by decide) (Nat.le_of_ble_eq_true rfl) ?_
  intro p e s m args below meth c M hK hr hlo hin hI ls hl
  have hx := M.1
  have hb := M.2.1
  have hl : lv_has ls 10 [(0, .ref o), (1, .int n1), (2, .long kh), (4, .long kl), (6, .int n6), (7, .int n7), (8, .int n8)] := hl
  have hf : gw_fr (mown o q) G G := gw_fr.rf
  refine lv_aload_n hx hb d_Mo_add_0 rfl (lv_at hl 0 rfl) ?_
  refine lv_iload_n hx hb d_Mo_add_1 rfl (lv_at hl 1 rfl) ?_
  refine lv_sipush (v := 256) hx hb d_Mo_add_2 (by decide) ?_
  refine lv_icmp_lt (tgt := 31) hx hb d_Mo_add_5 (by decide) (fun q9 => absurd q9 hok.1) (fun c_5 => ?_)
  refine lv_iload hx hb d_Mo_add_8 (lv_at hl 5 rfl) ?_
  refine lv_bipush (v := 32) hx hb d_Mo_add_10 (by decide) ?_
  refine lv_icmp_lt (tgt := 31) hx hb d_Mo_add_12 (by decide) (fun q9 => absurd q9 hok.2.1) (fun c_12 => ?_)
  refine lv_iload hx hb d_Mo_add_15 (lv_at hl 5 rfl) ?_
  refine lv_sipush (v := 1024) hx hb d_Mo_add_17 (by decide) ?_
  refine lv_icmp_gt (tgt := 31) hx hb d_Mo_add_20 (by decide) (fun q9 => absurd q9 hok.2.2.1) (fun c_20 => ?_)
  refine lv_iload hx hb d_Mo_add_23 (lv_at hl 5 rfl) ?_
  refine lv_bipush (v := 32) hx hb d_Mo_add_25 (by decide) ?_
  refine lv_irem hx hb d_Mo_add_27 (by decide) ?_
  refine lv_if_eq (tgt := 35) hx hb d_Mo_add_28 (by decide) (fun c_28 => ?_) (fun q9 => absurd hok.2.2.2 q9)
  refine lv_iconst (v := 0) hx hb d_Mo_add_35 (by decide) ?_
  refine gw_put M hK hI hM.O i_Mo t_Mo tk_Mo n_Mo rfl 0 (by decide) f_Mo_94 rfl rfl rfl (kx (mo_ob q 0 (nI f0) (nI l0) (nI g0))) (fun x hx => ⟨_, hx, Nat.le_of_ble_eq_true rfl, rfl⟩) d_Mo_add_36 (fun H locs hI => ?_)
  obtain ⟨G1, hE_G1⟩ : ∃ z9, gw_up G o (kx (mo_ob q 0 (nI f0) (nI l0) (nI g0))) = z9 := ⟨_, rfl⟩
  rw [hE_G1] at hI
  have hf : gw_fr (mown o q) G G1 := hf.tr (by rw [← hE_G1]; exact gw_fr.up (Or.inl rfl))
  have hM : mdl D G1 o q B 0 f0 l0 g0 fu fn fx fi fl := by rw [← hE_G1]; exact hM.ob hM.f200 hM.l236 hM.g204
  refine lv_aload_n hx hb d_Mo_add_39 rfl (lv_at hl 0 rfl) ?_
  refine gw_get M hK hI hM.O i_Mo rfl 0 (by decide) f_Mo_94 rfl (Pv := fun v => v = .int 0) (fun x hx => ⟨_, _, hx, rfl, rfl⟩) d_Mo_add_40 (fun v hv => ?_)
  subst hv
  refine lv_if_gt (tgt := 54) hx hb d_Mo_add_43 (by decide) (fun q9 => absurd q9 (by decide)) (fun c_43 => ?_)
  refine lv_aload_n hx hb d_Mo_add_46 rfl (lv_at hl 0 rfl) ?_
  refine lv_iload_n hx hb d_Mo_add_47 rfl (lv_at hl 1 rfl) ?_
  refine gw_Vi (As := [.int n1]) (rest := []) M hK hI (c_Mo_findf l o q B 0 f0 l0 g0 fu fn fx fi fl hM n1 s1 hfi hs1) k_Mo_find m_Mo_135 hM.O (ci := 6) rfl (fun x hx => ⟨_, hx⟩) rfl hl.1 rfl (Nat.le_of_ble_eq_true rfl) ⟨rfl, rfl, ⟨Nat.le_of_ble_eq_true rfl, Nat.le_of_ble_eq_true rfl⟩, ⟨Nat.le_of_ble_eq_true rfl, Nat.le_of_ble_eq_true rfl⟩⟩ d_Mo_add_48 (fun x2 G9 H locs hw hI => ?_)
  obtain ⟨h_x2, hw⟩ := hw
  rw [hw] at hI
  subst h_x2
  refine lv_if_lt (tgt := 56) hx hb d_Mo_add_51 (by decide) (fun q9 => absurd q9 (nI_nn (by omega))) (fun c_51 => ?_)
  refine lv_iconst (v := 0) hx hb d_Mo_add_54 (by decide) ?_
  exact gw_zret M hr rfl hlo hI d_Mo_add_55 (⟨rfl, hM, hf⟩)

abbrev rm_Mo_addo : Room := { frames := 2, cells := 0, slots := 0, locals := 53 }
set_option maxHeartbeats 4000000 in
set_option maxRecDepth 100000 in
theorem c_Mo_addo (l : Launch) {D : gw_D} {Hs : Heap} {G : gw_G} (o : Nat) (q : Nat → Nat) (B : Nat) (t0 : Int32) (f0 l0 g0 : Nat) (fu fn fx fi : Nat → Int32) (fl : Nat → Int64) (hM : mdl D G o q B t0 f0 l0 g0 fu fn fx fi fl) (n1 : Int32) (kh kl : Int64) (n6 n7 n8 : Int32) (hok : ¬ n1 < 256 ∧ okW n7) (hfi : ∀ j, j < 16 → ¬ (¬ fu j = 0 ∧ fn j = n1)) (hall : ∀ j, j < 16 → ¬ fu j = 0) : Met l y_Mo_add (Cond.code y_Mo_add b_Mo_add 10 (some .boolean) :: tb) rm_Mo_addo (gw_Pc D Hs G [.ref o, .int n1, .long kh, .long kl, .int n6, .int n7, .int n8]) (gw_Qi D Hs (fun r G1 => r = 0 ∧ mdl D G1 o q B 0 f0 l0 g0 fu fn fx fi fl ∧ gw_fr (mown o q) G G1)) 0 0 (gw_A Hs) := by
  refine gw_met (by decide) (Nat.le_of_ble_eq_true rfl) ?_
  intro p e s m args below meth c M hK hr hlo hin hI ls hl
  have hx := M.1
  have hb := M.2.1
  have hl : lv_has ls 10 [(0, .ref o), (1, .int n1), (2, .long kh), (4, .long kl), (6, .int n6), (7, .int n7), (8, .int n8)] := hl
  have hf : gw_fr (mown o q) G G := gw_fr.rf
  refine lv_aload_n hx hb d_Mo_add_0 rfl (lv_at hl 0 rfl) ?_
  refine lv_iload_n hx hb d_Mo_add_1 rfl (lv_at hl 1 rfl) ?_
  refine lv_sipush (v := 256) hx hb d_Mo_add_2 (by decide) ?_
  refine lv_icmp_lt (tgt := 31) hx hb d_Mo_add_5 (by decide) (fun q9 => absurd q9 hok.1) (fun c_5 => ?_)
  refine lv_iload hx hb d_Mo_add_8 (lv_at hl 5 rfl) ?_
  refine lv_bipush (v := 32) hx hb d_Mo_add_10 (by decide) ?_
  refine lv_icmp_lt (tgt := 31) hx hb d_Mo_add_12 (by decide) (fun q9 => absurd q9 hok.2.1) (fun c_12 => ?_)
  refine lv_iload hx hb d_Mo_add_15 (lv_at hl 5 rfl) ?_
  refine lv_sipush (v := 1024) hx hb d_Mo_add_17 (by decide) ?_
  refine lv_icmp_gt (tgt := 31) hx hb d_Mo_add_20 (by decide) (fun q9 => absurd q9 hok.2.2.1) (fun c_20 => ?_)
  refine lv_iload hx hb d_Mo_add_23 (lv_at hl 5 rfl) ?_
  refine lv_bipush (v := 32) hx hb d_Mo_add_25 (by decide) ?_
  refine lv_irem hx hb d_Mo_add_27 (by decide) ?_
  refine lv_if_eq (tgt := 35) hx hb d_Mo_add_28 (by decide) (fun c_28 => ?_) (fun q9 => absurd hok.2.2.2 q9)
  refine lv_iconst (v := 0) hx hb d_Mo_add_35 (by decide) ?_
  refine gw_put M hK hI hM.O i_Mo t_Mo tk_Mo n_Mo rfl 0 (by decide) f_Mo_94 rfl rfl rfl (kx (mo_ob q 0 (nI f0) (nI l0) (nI g0))) (fun x hx => ⟨_, hx, Nat.le_of_ble_eq_true rfl, rfl⟩) d_Mo_add_36 (fun H locs hI => ?_)
  obtain ⟨G1, hE_G1⟩ : ∃ z9, gw_up G o (kx (mo_ob q 0 (nI f0) (nI l0) (nI g0))) = z9 := ⟨_, rfl⟩
  rw [hE_G1] at hI
  have hf : gw_fr (mown o q) G G1 := hf.tr (by rw [← hE_G1]; exact gw_fr.up (Or.inl rfl))
  have hM : mdl D G1 o q B 0 f0 l0 g0 fu fn fx fi fl := by rw [← hE_G1]; exact hM.ob hM.f200 hM.l236 hM.g204
  refine lv_aload_n hx hb d_Mo_add_39 rfl (lv_at hl 0 rfl) ?_
  refine gw_get M hK hI hM.O i_Mo rfl 0 (by decide) f_Mo_94 rfl (Pv := fun v => v = .int 0) (fun x hx => ⟨_, _, hx, rfl, rfl⟩) d_Mo_add_40 (fun v hv => ?_)
  subst hv
  refine lv_if_gt (tgt := 54) hx hb d_Mo_add_43 (by decide) (fun q9 => absurd q9 (by decide)) (fun c_43 => ?_)
  refine lv_aload_n hx hb d_Mo_add_46 rfl (lv_at hl 0 rfl) ?_
  refine lv_iload_n hx hb d_Mo_add_47 rfl (lv_at hl 1 rfl) ?_
  refine gw_Vi (As := [.int n1]) (rest := []) M hK hI (c_Mo_findn l o q B 0 f0 l0 g0 fu fn fx fi fl hM n1 hfi) k_Mo_find m_Mo_135 hM.O (ci := 6) rfl (fun x hx => ⟨_, hx⟩) rfl hl.1 rfl (Nat.le_of_ble_eq_true rfl) ⟨rfl, rfl, ⟨Nat.le_of_ble_eq_true rfl, Nat.le_of_ble_eq_true rfl⟩, ⟨Nat.le_of_ble_eq_true rfl, Nat.le_of_ble_eq_true rfl⟩⟩ d_Mo_add_48 (fun x2 G9 H locs hw hI => ?_)
  obtain ⟨h_x2, hw⟩ := hw
  rw [hw] at hI
  subst h_x2
  refine lv_if_lt (tgt := 56) hx hb d_Mo_add_51 (by decide) (fun c_51 => ?_) (fun q9 => absurd (by decide) q9)
  refine lv_iconst (v := 0) hx hb d_Mo_add_56 (by decide) ?_
  refine lv_istore (lv' := [(9, .int 0), (0, .ref o), (1, .int n1), (2, .long kh), (4, .long kl), (6, .int n6), (7, .int n7), (8, .int n8)]) hx hb d_Mo_add_57 hl (by decide) rfl (fun ls hl => ?_)
  have L_59 : ∀ (n9 : Nat) (k : Nat) (y9 : Int32) (H : Heap) (locs : List Loc) (ls : Array Slot), k ≤ 16 → y9 = nI k → 16 - k < n9 → gw_I D Hs G1 s.heap H locs → lv_has ls 10 [(9, .int y9), (0, .ref o), (1, .int n1), (2, .long kh), (4, .long kl), (6, .int n6), (7, .int n7), (8, .int n8)] → W p l e rm_Mo_addo s m args below meth c H locs 0 0 (MQ below (gw_Qi D Hs (fun r G1 => r = 0 ∧ mdl D G1 o q B 0 f0 l0 g0 fu fn fx fi fl ∧ gw_fr (mown o q) G G1)) args s 0 0 (gw_A Hs)) (F0 m 59 ls []) := by
    intro n9
    induction n9 with
    | zero =>
      intro k y9 H locs ls bk hk hm hI hl
      exact absurd hm (Nat.not_lt_zero _)
    | succ n9 ih_59 =>
      intro k y9 H locs ls bk hk hm_59 hI hl
      refine lv_iload hx hb d_Mo_add_59 (lv_at hl 0 rfl) ?_
      refine lv_bipush (v := 16) hx hb d_Mo_add_61 (by decide) ?_
      refine lv_icmp_ge (tgt := 82) hx hb d_Mo_add_63 (by decide) (fun c_63 => ?_) (fun c_63 => ?_)
      · have hk16 : k = 16 := Nat.le_antisymm bk (nb_ge (n := 16) hk c_63 (by decide) (z_31 bk))
        have hy16 : y9 = 16 := by rw [hk, hk16]; rfl
        refine lv_iload hx hb d_Mo_add_82 (lv_at hl 0 rfl) ?_
        refine lv_bipush (v := 16) hx hb d_Mo_add_84 (by decide) ?_
        refine lv_icmp_ne (tgt := 91) hx hb d_Mo_add_86 (by decide) (fun q9 => absurd hy16 q9) (fun c_86 => ?_)
        refine lv_iconst (v := 0) hx hb d_Mo_add_89 (by decide) ?_
        exact gw_zret M hr rfl hlo hI d_Mo_add_90 (⟨rfl, hM, hf⟩)
      · have lk : k < 16 := nb_lt (n := 16) hk c_63 (by decide) (z_31 bk)
        refine lv_aload_n hx hb d_Mo_add_66 rfl (lv_at hl 1 rfl) ?_
        refine gw_get M hK hI hM.O i_Mo rfl 2 (by decide) f_Mo_13 rfl (Pv := fun v => v = .ref (q 2)) (fun x hx => ⟨_, _, hx, rfl, rfl⟩) d_Mo_add_67 (fun v hv => ?_)
        subst hv
        refine lv_iload hx hb d_Mo_add_70 (lv_at hl 0 rfl) ?_
        refine gw_zaldx M hK hI hM.k2 (nb_in hk lk) d_Mo_add_72 ?_
        rw [show (y9).toNatClampNeg = k from (nb_cl hk)]
        refine lv_if_eq (tgt := 82) hx hb d_Mo_add_73 (by decide) (fun q9 => absurd q9 (hall k lk)) (fun c_73 => ?_)
        obtain ⟨x3, e_x3⟩ : ∃ ww9 : Int32, ww9 = y9 + 1 := ⟨_, rfl⟩
        refine lv_iinc (v := x3) (lv' := [(9, .int x3), (0, .ref o), (1, .int n1), (2, .long kh), (4, .long kl), (6, .int n6), (7, .int n7), (8, .int n8)]) hx hb d_Mo_add_76 hl (k := 0) rfl (by rw [e_x3]; rfl) (by decide) rfl (fun ls hl => ?_)
        refine lv_goto (tgt := 59) hx hb d_Mo_add_79 (by decide) ?_
        exact ih_59 (k + 1) x3 _ _ _ lk (nb_s e_x3 hk) (z_m hm_59 lk) hI (lv_sub hl [0, 1, 2, 3, 4, 5, 6, 7] rfl)
  exact L_59 _ 0 0 _ _ _ (Nat.zero_le _) rfl (Nat.lt_succ_self _) hI (lv_sub hl [0, 1, 2, 3, 4, 5, 6, 7] rfl)

abbrev rm_Mo_add : Room := { frames := 2, cells := 0, slots := 0, locals := 53 }
set_option maxHeartbeats 4000000 in
set_option maxRecDepth 100000 in
theorem c_Mo_add (l : Launch) {D : gw_D} {Hs : Heap} {G : gw_G} (o : Nat) (q : Nat → Nat) (B : Nat) (t0 : Int32) (f0 l0 g0 : Nat) (fu fn fx fi : Nat → Int32) (fl : Nat → Int64) (hM : mdl D G o q B t0 f0 l0 g0 fu fn fx fi fl) (n1 : Int32) (kh kl : Int64) (n6 n7 n8 : Int32) (hok : ¬ n1 < 256 ∧ okW n7) (hfi : ∀ j, j < 16 → ¬ (¬ fu j = 0 ∧ fn j = n1)) (h8 : n8 = 0 ∨ n8 = 1) (sf : Nat) (hsf : sf < 16) (hz : fu sf = 0) (hb4 : ∀ j, j < sf → ¬ fu j = 0) : Met l y_Mo_add (Cond.code y_Mo_add b_Mo_add 10 (some .boolean) :: tb) rm_Mo_add (gw_Pc D Hs G [.ref o, .int n1, .long kh, .long kl, .int n6, .int n7, .int n8]) (gw_Qi D Hs (fun r G1 => r = 1 ∧ mdl D G1 o q B 0 f0 l0 g0 (upd fu sf 1) (upd fn sf n1) (upd fx sf n8) (upd fi sf 1000000000) (vp_updL fl sf 0) ∧ gw_fr (mown o q) G G1)) 0 0 (gw_A Hs) := by
  refine gw_met (by decide) (Nat.le_of_ble_eq_true rfl) ?_
  intro p e s m args below meth c M hK hr hlo hin hI ls hl
  have hx := M.1
  have hb := M.2.1
  have hl : lv_has ls 10 [(0, .ref o), (1, .int n1), (2, .long kh), (4, .long kl), (6, .int n6), (7, .int n7), (8, .int n8)] := hl
  have hf : gw_fr (mown o q) G G := gw_fr.rf
  refine lv_aload_n hx hb d_Mo_add_0 rfl (lv_at hl 0 rfl) ?_
  refine lv_iload_n hx hb d_Mo_add_1 rfl (lv_at hl 1 rfl) ?_
  refine lv_sipush (v := 256) hx hb d_Mo_add_2 (by decide) ?_
  refine lv_icmp_lt (tgt := 31) hx hb d_Mo_add_5 (by decide) (fun q9 => absurd q9 hok.1) (fun c_5 => ?_)
  refine lv_iload hx hb d_Mo_add_8 (lv_at hl 5 rfl) ?_
  refine lv_bipush (v := 32) hx hb d_Mo_add_10 (by decide) ?_
  refine lv_icmp_lt (tgt := 31) hx hb d_Mo_add_12 (by decide) (fun q9 => absurd q9 hok.2.1) (fun c_12 => ?_)
  refine lv_iload hx hb d_Mo_add_15 (lv_at hl 5 rfl) ?_
  refine lv_sipush (v := 1024) hx hb d_Mo_add_17 (by decide) ?_
  refine lv_icmp_gt (tgt := 31) hx hb d_Mo_add_20 (by decide) (fun q9 => absurd q9 hok.2.2.1) (fun c_20 => ?_)
  refine lv_iload hx hb d_Mo_add_23 (lv_at hl 5 rfl) ?_
  refine lv_bipush (v := 32) hx hb d_Mo_add_25 (by decide) ?_
  refine lv_irem hx hb d_Mo_add_27 (by decide) ?_
  refine lv_if_eq (tgt := 35) hx hb d_Mo_add_28 (by decide) (fun c_28 => ?_) (fun q9 => absurd hok.2.2.2 q9)
  refine lv_iconst (v := 0) hx hb d_Mo_add_35 (by decide) ?_
  refine gw_put M hK hI hM.O i_Mo t_Mo tk_Mo n_Mo rfl 0 (by decide) f_Mo_94 rfl rfl rfl (kx (mo_ob q 0 (nI f0) (nI l0) (nI g0))) (fun x hx => ⟨_, hx, Nat.le_of_ble_eq_true rfl, rfl⟩) d_Mo_add_36 (fun H locs hI => ?_)
  obtain ⟨G1, hE_G1⟩ : ∃ z9, gw_up G o (kx (mo_ob q 0 (nI f0) (nI l0) (nI g0))) = z9 := ⟨_, rfl⟩
  rw [hE_G1] at hI
  have hf : gw_fr (mown o q) G G1 := hf.tr (by rw [← hE_G1]; exact gw_fr.up (Or.inl rfl))
  have hM : mdl D G1 o q B 0 f0 l0 g0 fu fn fx fi fl := by rw [← hE_G1]; exact hM.ob hM.f200 hM.l236 hM.g204
  refine lv_aload_n hx hb d_Mo_add_39 rfl (lv_at hl 0 rfl) ?_
  refine gw_get M hK hI hM.O i_Mo rfl 0 (by decide) f_Mo_94 rfl (Pv := fun v => v = .int 0) (fun x hx => ⟨_, _, hx, rfl, rfl⟩) d_Mo_add_40 (fun v hv => ?_)
  subst hv
  refine lv_if_gt (tgt := 54) hx hb d_Mo_add_43 (by decide) (fun q9 => absurd q9 (by decide)) (fun c_43 => ?_)
  refine lv_aload_n hx hb d_Mo_add_46 rfl (lv_at hl 0 rfl) ?_
  refine lv_iload_n hx hb d_Mo_add_47 rfl (lv_at hl 1 rfl) ?_
  refine gw_Vi (As := [.int n1]) (rest := []) M hK hI (c_Mo_findn l o q B 0 f0 l0 g0 fu fn fx fi fl hM n1 hfi) k_Mo_find m_Mo_135 hM.O (ci := 6) rfl (fun x hx => ⟨_, hx⟩) rfl hl.1 rfl (Nat.le_of_ble_eq_true rfl) ⟨rfl, rfl, ⟨Nat.le_of_ble_eq_true rfl, Nat.le_of_ble_eq_true rfl⟩, ⟨Nat.le_of_ble_eq_true rfl, Nat.le_of_ble_eq_true rfl⟩⟩ d_Mo_add_48 (fun x2 G9 H locs hw hI => ?_)
  obtain ⟨h_x2, hw⟩ := hw
  rw [hw] at hI
  subst h_x2
  refine lv_if_lt (tgt := 56) hx hb d_Mo_add_51 (by decide) (fun c_51 => ?_) (fun q9 => absurd (by decide) q9)
  refine lv_iconst (v := 0) hx hb d_Mo_add_56 (by decide) ?_
  refine lv_istore (lv' := [(9, .int 0), (0, .ref o), (1, .int n1), (2, .long kh), (4, .long kl), (6, .int n6), (7, .int n7), (8, .int n8)]) hx hb d_Mo_add_57 hl (by decide) rfl (fun ls hl => ?_)
  have L_59 : ∀ (n9 : Nat) (k : Nat) (y9 : Int32) (H : Heap) (locs : List Loc) (ls : Array Slot), k ≤ sf → y9 = nI k → sf - k < n9 → gw_I D Hs G1 s.heap H locs → lv_has ls 10 [(9, .int y9), (0, .ref o), (1, .int n1), (2, .long kh), (4, .long kl), (6, .int n6), (7, .int n7), (8, .int n8)] → W p l e rm_Mo_add s m args below meth c H locs 0 0 (MQ below (gw_Qi D Hs (fun r G1 => r = 1 ∧ mdl D G1 o q B 0 f0 l0 g0 (upd fu sf 1) (upd fn sf n1) (upd fx sf n8) (upd fi sf 1000000000) (vp_updL fl sf 0) ∧ gw_fr (mown o q) G G1)) args s 0 0 (gw_A Hs)) (F0 m 59 ls []) := by
    intro n9
    induction n9 with
    | zero =>
      intro k y9 H locs ls bk hk hm hI hl
      exact absurd hm (Nat.not_lt_zero _)
    | succ n9 ih_59 =>
      intro k y9 H locs ls bk hk hm_59 hI hl
      refine lv_iload hx hb d_Mo_add_59 (lv_at hl 0 rfl) ?_
      refine lv_bipush (v := 16) hx hb d_Mo_add_61 (by decide) ?_
      refine lv_icmp_ge (tgt := 82) hx hb d_Mo_add_63 (by decide) (fun q9 => absurd q9 (fun h9 => by have h7 := nb_ge (n := 16) hk h9 (by decide) (by omega); omega)) (fun c_63 => ?_)
      refine lv_aload_n hx hb d_Mo_add_66 rfl (lv_at hl 1 rfl) ?_
      refine gw_get M hK hI hM.O i_Mo rfl 2 (by decide) f_Mo_13 rfl (Pv := fun v => v = .ref (q 2)) (fun x hx => ⟨_, _, hx, rfl, rfl⟩) d_Mo_add_67 (fun v hv => ?_)
      subst hv
      refine lv_iload hx hb d_Mo_add_70 (lv_at hl 0 rfl) ?_
      refine gw_zaldx M hK hI hM.k2 (nb_in hk (by omega)) d_Mo_add_72 ?_
      rw [show (y9).toNatClampNeg = k from (nb_cl hk)]
      refine lv_if_eq (tgt := 82) hx hb d_Mo_add_73 (by decide) (fun c_73 => ?_) (fun c_73 => ?_)
      · have hk2 : y9 = nI sf := by
          rcases Nat.lt_or_ge k sf with q9 | q9
          · exact absurd c_73 (hb4 k q9)
          · rw [hk, show k = sf from by omega]
        have hn16 : ¬ y9 = 16 := fun q9 => by have h7 := pk_nin (a := sf) (b := 16) (by omega) (by decide) (hk2.symm.trans q9); omega
        refine lv_iload hx hb d_Mo_add_82 (lv_at hl 0 rfl) ?_
        refine lv_bipush (v := 16) hx hb d_Mo_add_84 (by decide) ?_
        refine lv_icmp_ne (tgt := 91) hx hb d_Mo_add_86 (by decide) (fun c_86 => ?_) (fun q9 => absurd q9 hn16)
        refine lv_aload_n hx hb d_Mo_add_91 rfl (lv_at hl 1 rfl) ?_
        refine gw_get M hK hI hM.O i_Mo rfl 2 (by decide) f_Mo_13 rfl (Pv := fun v => v = .ref (q 2)) (fun x hx => ⟨_, _, hx, rfl, rfl⟩) d_Mo_add_92 (fun v hv => ?_)
        subst hv
        refine lv_iload hx hb d_Mo_add_95 (lv_at hl 0 rfl) ?_
        refine lv_iconst (v := 1) hx hb d_Mo_add_97 (by decide) ?_
        refine gw_zastx M hK hI hM.k2 (nb_in hk2 hsf) d_Mo_add_98 (fun H locs hI => ?_)
        rw [show (y9).toNatClampNeg = sf from (nb_cl hk2)] at hI
        rw [show (vp_nar .boolean 1) = 1 from (by decide)] at hI
        obtain ⟨G3, hE_G3⟩ : ∃ z9, gw_up G1 (q 2) (kx (.inl (D.2 2, 16, .inl (upd fu sf 1)))) = z9 := ⟨_, rfl⟩
        rw [hE_G3] at hI
        have hf : gw_fr (mown o q) G G3 := hf.tr (by rw [← hE_G3]; exact gw_fr.up (mown.k rfl))
        have hM : mdl D G3 o q B 0 f0 l0 g0 (upd fu sf 1) fn fx fi fl := by rw [← hE_G3]; exact hM.ar2 _
        refine lv_aload_n hx hb d_Mo_add_99 rfl (lv_at hl 1 rfl) ?_
        refine gw_get M hK hI hM.O i_Mo rfl 3 (by decide) f_Mo_17 rfl (Pv := fun v => v = .ref (q 3)) (fun x hx => ⟨_, _, hx, rfl, rfl⟩) d_Mo_add_100 (fun v hv => ?_)
        subst hv
        refine lv_iload hx hb d_Mo_add_103 (lv_at hl 0 rfl) ?_
        refine lv_iload_n hx hb d_Mo_add_105 rfl (lv_at hl 2 rfl) ?_
        refine gw_iastx M hK hI hM.k3 (nb_in hk2 hsf) d_Mo_add_106 (fun H locs hI => ?_)
        rw [show (y9).toNatClampNeg = sf from (nb_cl hk2)] at hI
        obtain ⟨G4, hE_G4⟩ : ∃ z9, gw_up G3 (q 3) (kx (.inl (D.2 0, 16, .inl (upd fn sf n1)))) = z9 := ⟨_, rfl⟩
        rw [hE_G4] at hI
        have hf : gw_fr (mown o q) G G4 := hf.tr (by rw [← hE_G4]; exact gw_fr.up (mown.k rfl))
        have hM : mdl D G4 o q B 0 f0 l0 g0 (upd fu sf 1) (upd fn sf n1) fx fi fl := by rw [← hE_G4]; exact hM.ar3 _
        refine lv_aload_n hx hb d_Mo_add_107 rfl (lv_at hl 1 rfl) ?_
        refine lv_iload hx hb d_Mo_add_108 (lv_at hl 0 rfl) ?_
        refine lv_lload_n hx hb d_Mo_add_110 rfl (lv_at hl 3 rfl) ?_
        refine lv_lload hx hb d_Mo_add_111 (lv_at hl 4 rfl) ?_
        refine gw_Vv (As := [.int y9, .long kh, .long kl]) (rest := []) M hK hI (c_Mo_spreadKey l o q B 0 f0 l0 g0 (upd fu sf 1) (upd fn sf n1) fx fi fl hM y9 sf hk2 hsf kh kl) k_Mo_spreadKey m_Mo_139 hM.O (ci := 6) rfl (fun x hx => ⟨_, hx⟩) rfl hl.1 rfl (Nat.le_of_ble_eq_true rfl) ⟨rfl, rfl, ⟨Nat.le_of_ble_eq_true rfl, Nat.le_of_ble_eq_true rfl⟩, ⟨Nat.le_of_ble_eq_true rfl, Nat.le_of_ble_eq_true rfl⟩⟩ d_Mo_add_113 (fun G9 H locs hw hI => ?_)
        rw [hw] at hI
        refine lv_aload_n hx hb d_Mo_add_116 rfl (lv_at hl 1 rfl) ?_
        refine gw_get M hK hI hM.O i_Mo rfl 5 (by decide) f_Mo_23 rfl (Pv := fun v => v = .ref (q 5)) (fun x hx => ⟨_, _, hx, rfl, rfl⟩) d_Mo_add_117 (fun v hv => ?_)
        subst hv
        refine lv_iload hx hb d_Mo_add_120 (lv_at hl 0 rfl) ?_
        refine lv_iload hx hb d_Mo_add_122 (lv_at hl 5 rfl) ?_
        refine gw_iast M hK hI hM.k5 (nb_in hk2 hsf) trivial d_Mo_add_124 (fun H locs hI => ?_)
        refine lv_aload_n hx hb d_Mo_add_125 rfl (lv_at hl 1 rfl) ?_
        refine gw_get M hK hI hM.O i_Mo rfl 6 (by decide) f_Mo_26 rfl (Pv := fun v => v = .ref (q 6)) (fun x hx => ⟨_, _, hx, rfl, rfl⟩) d_Mo_add_126 (fun v hv => ?_)
        subst hv
        refine lv_iload hx hb d_Mo_add_129 (lv_at hl 0 rfl) ?_
        refine lv_iload hx hb d_Mo_add_131 (lv_at hl 6 rfl) ?_
        refine gw_iast M hK hI hM.k6 (nb_in hk2 hsf) trivial d_Mo_add_133 (fun H locs hI => ?_)
        refine lv_aload_n hx hb d_Mo_add_134 rfl (lv_at hl 1 rfl) ?_
        refine gw_get M hK hI hM.O i_Mo rfl 7 (by decide) f_Mo_29 rfl (Pv := fun v => v = .ref (q 7)) (fun x hx => ⟨_, _, hx, rfl, rfl⟩) d_Mo_add_135 (fun v hv => ?_)
        subst hv
        refine lv_iload hx hb d_Mo_add_138 (lv_at hl 0 rfl) ?_
        refine lv_iload hx hb d_Mo_add_140 (lv_at hl 7 rfl) ?_
        refine gw_zastx M hK hI hM.k7 (nb_in hk2 hsf) d_Mo_add_142 (fun H locs hI => ?_)
        rw [show (y9).toNatClampNeg = sf from (nb_cl hk2)] at hI
        rw [show (vp_nar .boolean n8) = n8 from (h8.elim (fun q9 => by rw [q9]; rfl) (fun q9 => by rw [q9]; rfl))] at hI
        obtain ⟨G6, hE_G6⟩ : ∃ z9, gw_up G4 (q 7) (kx (.inl (D.2 2, 16, .inl (upd fx sf n8)))) = z9 := ⟨_, rfl⟩
        rw [hE_G6] at hI
        have hf : gw_fr (mown o q) G G6 := hf.tr (by rw [← hE_G6]; exact gw_fr.up (mown.k rfl))
        have hM : mdl D G6 o q B 0 f0 l0 g0 (upd fu sf 1) (upd fn sf n1) (upd fx sf n8) fi fl := by rw [← hE_G6]; exact hM.ar7 _
        refine lv_aload_n hx hb d_Mo_add_143 rfl (lv_at hl 1 rfl) ?_
        refine gw_get M hK hI hM.O i_Mo rfl 8 (by decide) f_Mo_32 rfl (Pv := fun v => v = .ref (q 8)) (fun x hx => ⟨_, _, hx, rfl, rfl⟩) d_Mo_add_144 (fun v hv => ?_)
        subst hv
        refine lv_iload hx hb d_Mo_add_147 (lv_at hl 0 rfl) ?_
        refine lv_lconst (v := 0) hx hb d_Mo_add_149 (by decide) ?_
        refine gw_lastx M hK hI hM.k8 (nb_in hk2 hsf) d_Mo_add_150 (fun H locs hI => ?_)
        rw [show (y9).toNatClampNeg = sf from (nb_cl hk2)] at hI
        obtain ⟨G7, hE_G7⟩ : ∃ z9, gw_up G6 (q 8) (kx (.inl (D.2 3, 16, .inr (.inl (vp_updL fl sf (0 : Int64)))))) = z9 := ⟨_, rfl⟩
        rw [hE_G7] at hI
        have hf : gw_fr (mown o q) G G7 := hf.tr (by rw [← hE_G7]; exact gw_fr.up (mown.k rfl))
        have hM : mdl D G7 o q B 0 f0 l0 g0 (upd fu sf 1) (upd fn sf n1) (upd fx sf n8) fi (vp_updL fl sf (0 : Int64)) := by rw [← hE_G7]; exact hM.ar8 _
        refine lv_aload_n hx hb d_Mo_add_151 rfl (lv_at hl 1 rfl) ?_
        refine gw_get M hK hI hM.O i_Mo rfl 9 (by decide) f_Mo_36 rfl (Pv := fun v => v = .ref (q 9)) (fun x hx => ⟨_, _, hx, rfl, rfl⟩) d_Mo_add_152 (fun v hv => ?_)
        subst hv
        refine lv_iload hx hb d_Mo_add_155 (lv_at hl 0 rfl) ?_
        refine lv_ldc (v := 1000000000) hx hb M.2.2.2.1 (M.2.2.2.2 _ o_Mo_143) d_Mo_add_157 ?_
        refine gw_iastx M hK hI hM.k9 (nb_in hk2 hsf) d_Mo_add_159 (fun H locs hI => ?_)
        rw [show (y9).toNatClampNeg = sf from (nb_cl hk2)] at hI
        obtain ⟨G8, hE_G8⟩ : ∃ z9, gw_up G7 (q 9) (kx (.inl (D.2 0, 16, .inl (upd fi sf (1000000000 : Int32))))) = z9 := ⟨_, rfl⟩
        rw [hE_G8] at hI
        have hf : gw_fr (mown o q) G G8 := hf.tr (by rw [← hE_G8]; exact gw_fr.up (mown.k rfl))
        have hM : mdl D G8 o q B 0 f0 l0 g0 (upd fu sf 1) (upd fn sf n1) (upd fx sf n8) (upd fi sf (1000000000 : Int32)) (vp_updL fl sf (0 : Int64)) := by rw [← hE_G8]; exact hM.ar9 _
        refine lv_aload_n hx hb d_Mo_add_160 rfl (lv_at hl 1 rfl) ?_
        refine gw_get M hK hI hM.O i_Mo rfl 10 (by decide) f_Mo_39 rfl (Pv := fun v => v = .ref (q 10)) (fun x hx => ⟨_, _, hx, rfl, rfl⟩) d_Mo_add_161 (fun v hv => ?_)
        subst hv
        refine lv_iload hx hb d_Mo_add_164 (lv_at hl 0 rfl) ?_
        refine lv_lconst (v := 0) hx hb d_Mo_add_166 (by decide) ?_
        refine gw_last M hK hI hM.k10 (nb_in hk2 hsf) trivial d_Mo_add_167 (fun H locs hI => ?_)
        refine lv_aload_n hx hb d_Mo_add_168 rfl (lv_at hl 1 rfl) ?_
        refine gw_get M hK hI hM.O i_Mo rfl 11 (by decide) f_Mo_42 rfl (Pv := fun v => v = .ref (q 11)) (fun x hx => ⟨_, _, hx, rfl, rfl⟩) d_Mo_add_169 (fun v hv => ?_)
        subst hv
        refine lv_iload hx hb d_Mo_add_172 (lv_at hl 0 rfl) ?_
        refine lv_lconst (v := 0) hx hb d_Mo_add_174 (by decide) ?_
        refine gw_last M hK hI hM.k11 (nb_in hk2 hsf) trivial d_Mo_add_175 (fun H locs hI => ?_)
        refine lv_aload_n hx hb d_Mo_add_176 rfl (lv_at hl 1 rfl) ?_
        refine gw_get M hK hI hM.O i_Mo rfl 12 (by decide) f_Mo_45 rfl (Pv := fun v => v = .ref (q 12)) (fun x hx => ⟨_, _, hx, rfl, rfl⟩) d_Mo_add_177 (fun v hv => ?_)
        subst hv
        refine lv_iload hx hb d_Mo_add_180 (lv_at hl 0 rfl) ?_
        refine lv_iconst (v := 0) hx hb d_Mo_add_182 (by decide) ?_
        refine gw_iast M hK hI hM.k12 (nb_in hk2 hsf) trivial d_Mo_add_183 (fun H locs hI => ?_)
        refine lv_aload_n hx hb d_Mo_add_184 rfl (lv_at hl 1 rfl) ?_
        refine gw_get M hK hI hM.O i_Mo rfl 13 (by decide) f_Mo_48 rfl (Pv := fun v => v = .ref (q 13)) (fun x hx => ⟨_, _, hx, rfl, rfl⟩) d_Mo_add_185 (fun v hv => ?_)
        subst hv
        refine lv_iload hx hb d_Mo_add_188 (lv_at hl 0 rfl) ?_
        refine lv_iconst (v := 0) hx hb d_Mo_add_190 (by decide) ?_
        refine gw_iast M hK hI hM.k13 (nb_in hk2 hsf) trivial d_Mo_add_191 (fun H locs hI => ?_)
        refine lv_aload_n hx hb d_Mo_add_192 rfl (lv_at hl 1 rfl) ?_
        refine gw_get M hK hI hM.O i_Mo rfl 15 (by decide) f_Mo_54 rfl (Pv := fun v => v = .ref (q 15)) (fun x hx => ⟨_, _, hx, rfl, rfl⟩) d_Mo_add_193 (fun v hv => ?_)
        subst hv
        refine lv_iload hx hb d_Mo_add_196 (lv_at hl 0 rfl) ?_
        refine lv_iconst (v := 0) hx hb d_Mo_add_198 (by decide) ?_
        refine gw_iast M hK hI hM.k15 (nb_in hk2 hsf) ⟨0, Nat.zero_le _, rfl⟩ d_Mo_add_199 (fun H locs hI => ?_)
        refine lv_iconst (v := 1) hx hb d_Mo_add_200 (by decide) ?_
        exact gw_zret M hr rfl hlo hI d_Mo_add_201 (⟨rfl, hM, hf⟩)
      · have lk : k < sf := by
          rcases Nat.lt_or_ge k sf with q9 | q9
          · exact q9
          · exact absurd (by rw [show k = sf from by omega]; exact hz) c_73
        obtain ⟨x9, e_x9⟩ : ∃ ww9 : Int32, ww9 = y9 + 1 := ⟨_, rfl⟩
        refine lv_iinc (v := x9) (lv' := [(9, .int x9), (0, .ref o), (1, .int n1), (2, .long kh), (4, .long kl), (6, .int n6), (7, .int n7), (8, .int n8)]) hx hb d_Mo_add_76 hl (k := 0) rfl (by rw [e_x9]; rfl) (by decide) rfl (fun ls hl => ?_)
        refine lv_goto (tgt := 59) hx hb d_Mo_add_79 (by decide) ?_
        exact ih_59 (k + 1) x9 _ _ _ lk (nb_s e_x9 hk) (z_m hm_59 lk) hI (lv_sub hl [0, 1, 2, 3, 4, 5, 6, 7] rfl)
  exact L_59 _ 0 0 _ _ _ (Nat.zero_le _) rfl (Nat.lt_succ_self _) hI (lv_sub hl [0, 1, 2, 3, 4, 5, 6, 7] rfl)

abbrev rm_Mo_dropf : Room := { frames := 1, cells := 0, slots := 0, locals := 22 }
set_option maxHeartbeats 4000000 in
set_option maxRecDepth 100000 in
theorem c_Mo_dropf (l : Launch) {D : gw_D} {Hs : Heap} {G : gw_G} (o : Nat) (q : Nat → Nat) (B : Nat) (t0 : Int32) (f0 l0 g0 : Nat) (fu fn fx fi : Nat → Int32) (fl : Nat → Int64) (hM : mdl D G o q B t0 f0 l0 g0 fu fn fx fi fl) (n1 : Int32) (s1 : Nat) (hfi : isFi fu fn n1 s1) (hs1 : s1 < 16) : Met l y_Mo_drop (Cond.code y_Mo_drop b_Mo_drop 3 (some .boolean) :: tb) rm_Mo_dropf (gw_Pc D Hs G [.ref o, .int n1]) (gw_Qi D Hs (fun r G1 => r = 1 ∧ mdl D G1 o q B 0 f0 l0 g0 (upd fu s1 0) fn fx fi fl ∧ gw_fr (mown o q) G G1)) 0 0 (gw_A Hs) := by
  refine gw_met (by decide) (Nat.le_of_ble_eq_true rfl) ?_
  intro p e s m args below meth c M hK hr hlo hin hI ls hl
  have hx := M.1
  have hb := M.2.1
  have hl : lv_has ls 3 [(0, .ref o), (1, .int n1)] := hl
  have hf : gw_fr (mown o q) G G := gw_fr.rf
  refine lv_aload_n hx hb d_Mo_drop_0 rfl (lv_at hl 0 rfl) ?_
  refine lv_iconst (v := 0) hx hb d_Mo_drop_1 (by decide) ?_
  refine gw_put M hK hI hM.O i_Mo t_Mo tk_Mo n_Mo rfl 0 (by decide) f_Mo_94 rfl rfl rfl (kx (mo_ob q 0 (nI f0) (nI l0) (nI g0))) (fun x hx => ⟨_, hx, Nat.le_of_ble_eq_true rfl, rfl⟩) d_Mo_drop_2 (fun H locs hI => ?_)
  obtain ⟨G1, hE_G1⟩ : ∃ z9, gw_up G o (kx (mo_ob q 0 (nI f0) (nI l0) (nI g0))) = z9 := ⟨_, rfl⟩
  rw [hE_G1] at hI
  have hf : gw_fr (mown o q) G G1 := hf.tr (by rw [← hE_G1]; exact gw_fr.up (Or.inl rfl))
  have hM : mdl D G1 o q B 0 f0 l0 g0 fu fn fx fi fl := by rw [← hE_G1]; exact hM.ob hM.f200 hM.l236 hM.g204
  refine lv_aload_n hx hb d_Mo_drop_5 rfl (lv_at hl 0 rfl) ?_
  refine lv_iload_n hx hb d_Mo_drop_6 rfl (lv_at hl 1 rfl) ?_
  refine gw_Vi (As := [.int n1]) (rest := []) M hK hI (c_Mo_findf l o q B 0 f0 l0 g0 fu fn fx fi fl hM n1 s1 hfi hs1) k_Mo_find m_Mo_135 hM.O (ci := 6) rfl (fun x hx => ⟨_, hx⟩) rfl hl.1 rfl (Nat.le_of_ble_eq_true rfl) ⟨rfl, rfl, ⟨Nat.le_of_ble_eq_true rfl, Nat.le_of_ble_eq_true rfl⟩, ⟨Nat.le_of_ble_eq_true rfl, Nat.le_of_ble_eq_true rfl⟩⟩ d_Mo_drop_7 (fun x2 G9 H locs hw hI => ?_)
  obtain ⟨h_x2, hw⟩ := hw
  rw [hw] at hI
  subst h_x2
  refine lv_istore_n (lv' := [(2, .int (nI s1)), (0, .ref o), (1, .int n1)]) hx hb d_Mo_drop_10 rfl hl (by decide) rfl (fun ls hl => ?_)
  refine lv_iload_n hx hb d_Mo_drop_11 rfl (lv_at hl 0 rfl) ?_
  refine lv_if_lt (tgt := 22) hx hb d_Mo_drop_12 (by decide) (fun q9 => absurd q9 (nI_nn (by omega))) (fun c_12 => ?_)
  refine lv_aload_n hx hb d_Mo_drop_15 rfl (lv_at hl 1 rfl) ?_
  refine gw_get M hK hI hM.O i_Mo rfl 2 (by decide) f_Mo_13 rfl (Pv := fun v => v = .ref (q 2)) (fun x hx => ⟨_, _, hx, rfl, rfl⟩) d_Mo_drop_16 (fun v hv => ?_)
  subst hv
  refine lv_iload_n hx hb d_Mo_drop_19 rfl (lv_at hl 0 rfl) ?_
  refine lv_iconst (v := 0) hx hb d_Mo_drop_20 (by decide) ?_
  refine gw_zastx M hK hI hM.k2 (vp_in_nI hs1 (by decide)) d_Mo_drop_21 (fun H locs hI => ?_)
  rw [show ((nI s1)).toNatClampNeg = s1 from (nI_clp (by omega))] at hI
  rw [show (vp_nar .boolean 0) = 0 from (by decide)] at hI
  obtain ⟨G3, hE_G3⟩ : ∃ z9, gw_up G1 (q 2) (kx (.inl (D.2 2, 16, .inl (upd fu s1 0)))) = z9 := ⟨_, rfl⟩
  rw [hE_G3] at hI
  have hf : gw_fr (mown o q) G G3 := hf.tr (by rw [← hE_G3]; exact gw_fr.up (mown.k rfl))
  have hM : mdl D G3 o q B 0 f0 l0 g0 (upd fu s1 0) fn fx fi fl := by rw [← hE_G3]; exact hM.ar2 _
  refine lv_iload_n hx hb d_Mo_drop_22 rfl (lv_at hl 0 rfl) ?_
  refine lv_if_lt (tgt := 30) hx hb d_Mo_drop_23 (by decide) (fun q9 => absurd q9 (nI_nn (by omega))) (fun c_23 => ?_)
  refine lv_iconst (v := 1) hx hb d_Mo_drop_26 (by decide) ?_
  refine lv_goto (tgt := 31) hx hb d_Mo_drop_27 (by decide) ?_
  exact gw_zret M hr rfl hlo hI d_Mo_drop_31 (⟨rfl, hM, hf⟩)

abbrev rm_Mo_dropn : Room := { frames := 1, cells := 0, slots := 0, locals := 22 }
set_option maxHeartbeats 4000000 in
set_option maxRecDepth 100000 in
theorem c_Mo_dropn (l : Launch) {D : gw_D} {Hs : Heap} {G : gw_G} (o : Nat) (q : Nat → Nat) (B : Nat) (t0 : Int32) (f0 l0 g0 : Nat) (fu fn fx fi : Nat → Int32) (fl : Nat → Int64) (hM : mdl D G o q B t0 f0 l0 g0 fu fn fx fi fl) (n1 : Int32) (hfi : ∀ j, j < 16 → ¬ (¬ fu j = 0 ∧ fn j = n1)) : Met l y_Mo_drop (Cond.code y_Mo_drop b_Mo_drop 3 (some .boolean) :: tb) rm_Mo_dropn (gw_Pc D Hs G [.ref o, .int n1]) (gw_Qi D Hs (fun r G1 => r = 0 ∧ mdl D G1 o q B 0 f0 l0 g0 fu fn fx fi fl ∧ gw_fr (mown o q) G G1)) 0 0 (gw_A Hs) := by
  refine gw_met (by decide) (Nat.le_of_ble_eq_true rfl) ?_
  intro p e s m args below meth c M hK hr hlo hin hI ls hl
  have hx := M.1
  have hb := M.2.1
  have hl : lv_has ls 3 [(0, .ref o), (1, .int n1)] := hl
  have hf : gw_fr (mown o q) G G := gw_fr.rf
  refine lv_aload_n hx hb d_Mo_drop_0 rfl (lv_at hl 0 rfl) ?_
  refine lv_iconst (v := 0) hx hb d_Mo_drop_1 (by decide) ?_
  refine gw_put M hK hI hM.O i_Mo t_Mo tk_Mo n_Mo rfl 0 (by decide) f_Mo_94 rfl rfl rfl (kx (mo_ob q 0 (nI f0) (nI l0) (nI g0))) (fun x hx => ⟨_, hx, Nat.le_of_ble_eq_true rfl, rfl⟩) d_Mo_drop_2 (fun H locs hI => ?_)
  obtain ⟨G1, hE_G1⟩ : ∃ z9, gw_up G o (kx (mo_ob q 0 (nI f0) (nI l0) (nI g0))) = z9 := ⟨_, rfl⟩
  rw [hE_G1] at hI
  have hf : gw_fr (mown o q) G G1 := hf.tr (by rw [← hE_G1]; exact gw_fr.up (Or.inl rfl))
  have hM : mdl D G1 o q B 0 f0 l0 g0 fu fn fx fi fl := by rw [← hE_G1]; exact hM.ob hM.f200 hM.l236 hM.g204
  refine lv_aload_n hx hb d_Mo_drop_5 rfl (lv_at hl 0 rfl) ?_
  refine lv_iload_n hx hb d_Mo_drop_6 rfl (lv_at hl 1 rfl) ?_
  refine gw_Vi (As := [.int n1]) (rest := []) M hK hI (c_Mo_findn l o q B 0 f0 l0 g0 fu fn fx fi fl hM n1 hfi) k_Mo_find m_Mo_135 hM.O (ci := 6) rfl (fun x hx => ⟨_, hx⟩) rfl hl.1 rfl (Nat.le_of_ble_eq_true rfl) ⟨rfl, rfl, ⟨Nat.le_of_ble_eq_true rfl, Nat.le_of_ble_eq_true rfl⟩, ⟨Nat.le_of_ble_eq_true rfl, Nat.le_of_ble_eq_true rfl⟩⟩ d_Mo_drop_7 (fun x2 G9 H locs hw hI => ?_)
  obtain ⟨h_x2, hw⟩ := hw
  rw [hw] at hI
  subst h_x2
  refine lv_istore_n (lv' := [(2, .int (-1)), (0, .ref o), (1, .int n1)]) hx hb d_Mo_drop_10 rfl hl (by decide) rfl (fun ls hl => ?_)
  refine lv_iload_n hx hb d_Mo_drop_11 rfl (lv_at hl 0 rfl) ?_
  refine lv_if_lt (tgt := 22) hx hb d_Mo_drop_12 (by decide) (fun c_12 => ?_) (fun q9 => absurd (by decide) q9)
  refine lv_iload_n hx hb d_Mo_drop_22 rfl (lv_at hl 0 rfl) ?_
  refine lv_if_lt (tgt := 30) hx hb d_Mo_drop_23 (by decide) (fun c_23 => ?_) (fun q9 => absurd (by decide) q9)
  refine lv_iconst (v := 0) hx hb d_Mo_drop_30 (by decide) ?_
  exact gw_zret M hr rfl hlo hI d_Mo_drop_31 (⟨rfl, hM, hf⟩)

abbrev rm_Mo_hurryf : Room := { frames := 1, cells := 0, slots := 0, locals := 22 }
set_option maxHeartbeats 4000000 in
set_option maxRecDepth 100000 in
theorem c_Mo_hurryf (l : Launch) {D : gw_D} {Hs : Heap} {G : gw_G} (o : Nat) (q : Nat → Nat) (B : Nat) (t0 : Int32) (f0 l0 g0 : Nat) (fu fn fx fi : Nat → Int32) (fl : Nat → Int64) (hM : mdl D G o q B t0 f0 l0 g0 fu fn fx fi fl) (n1 : Int32) (s1 : Nat) (hfi : isFi fu fn n1 s1) (hs1 : s1 < 16) (n2 : Int64) : Met l y_Mo_hurry (Cond.code y_Mo_hurry b_Mo_hurry 5 none :: tb) rm_Mo_hurryf (gw_Pc D Hs G [.ref o, .int n1, .long n2]) (gw_Qv D Hs (fun G1 => (((n2 < fl s1 ∨ gre (fx s1) < n2) ∧ mdl D G1 o q B 2 f0 l0 g0 fu fn fx fi fl) ∨ (¬ (n2 < fl s1 ∨ gre (fx s1) < n2) ∧ mdl D G1 o q B 0 f0 l0 g0 fu fn fx fi (vp_updL fl s1 n2))) ∧ gw_fr (mown o q) G G1)) 0 0 (gw_A Hs) := by
  refine gw_met (by decide) (Nat.le_of_ble_eq_true rfl) ?_
  intro p e s m args below meth c M hK hr hlo hin hI ls hl
  have hx := M.1
  have hb := M.2.1
  have hl : lv_has ls 5 [(0, .ref o), (1, .int n1), (2, .long n2)] := hl
  have hf : gw_fr (mown o q) G G := gw_fr.rf
  refine lv_aload_n hx hb d_Mo_hurry_0 rfl (lv_at hl 0 rfl) ?_
  refine lv_iload_n hx hb d_Mo_hurry_1 rfl (lv_at hl 1 rfl) ?_
  refine gw_Vi (As := [.int n1]) (rest := []) M hK hI (c_Mo_findf l o q B t0 f0 l0 g0 fu fn fx fi fl hM n1 s1 hfi hs1) k_Mo_find m_Mo_135 hM.O (ci := 6) rfl (fun x hx => ⟨_, hx⟩) rfl hl.1 rfl (Nat.le_of_ble_eq_true rfl) ⟨rfl, rfl, ⟨Nat.le_of_ble_eq_true rfl, Nat.le_of_ble_eq_true rfl⟩, ⟨Nat.le_of_ble_eq_true rfl, Nat.le_of_ble_eq_true rfl⟩⟩ d_Mo_hurry_2 (fun x1 G9 H locs hw hI => ?_)
  obtain ⟨h_x1, hw⟩ := hw
  rw [hw] at hI
  subst h_x1
  refine lv_istore (lv' := [(4, .int (nI s1)), (0, .ref o), (1, .int n1), (2, .long n2)]) hx hb d_Mo_hurry_5 hl (by decide) rfl (fun ls hl => ?_)
  refine lv_aload_n hx hb d_Mo_hurry_7 rfl (lv_at hl 1 rfl) ?_
  refine lv_iload hx hb d_Mo_hurry_8 (lv_at hl 0 rfl) ?_
  refine lv_if_ge (tgt := 17) hx hb d_Mo_hurry_10 (by decide) (fun c_10 => ?_) (fun q9 => absurd (Int32.not_lt.mp (nI_nn (by omega))) q9)
  refine lv_lload_n hx hb d_Mo_hurry_17 rfl (lv_at hl 3 rfl) ?_
  refine lv_aload_n hx hb d_Mo_hurry_18 rfl (lv_at hl 1 rfl) ?_
  refine gw_get M hK hI hM.O i_Mo rfl 8 (by decide) f_Mo_32 rfl (Pv := fun v => v = .ref (q 8)) (fun x hx => ⟨_, _, hx, rfl, rfl⟩) d_Mo_hurry_19 (fun v hv => ?_)
  subst hv
  refine lv_iload hx hb d_Mo_hurry_22 (lv_at hl 0 rfl) ?_
  refine gw_laldx M hK hI hM.k8 (vp_in_nI hs1 (by decide)) d_Mo_hurry_24 ?_
  rw [show ((nI s1)).toNatClampNeg = s1 from (nI_clp (by omega))]
  refine W.lcmp hx hb d_Mo_hurry_25 ?_
  refine lv_if_lt (tgt := 40) hx hb d_Mo_hurry_26 (by decide) (fun c_26 => ?_) (fun c_26 => ?_)
  · have hr26 := c_26
    refine lv_iconst (v := 2) hx hb d_Mo_hurry_40 (by decide) ?_
    refine lv_goto (tgt := 45) hx hb d_Mo_hurry_41 (by decide) ?_
    refine gw_put M hK hI hM.O i_Mo t_Mo tk_Mo n_Mo rfl 0 (by decide) f_Mo_94 rfl rfl rfl (kx (mo_ob q 2 (nI f0) (nI l0) (nI g0))) (fun x hx => ⟨_, hx, Nat.le_of_ble_eq_true rfl, rfl⟩) d_Mo_hurry_45 (fun H locs hI => ?_)
    obtain ⟨G2, hE_G2⟩ : ∃ z9, gw_up G o (kx (mo_ob q 2 (nI f0) (nI l0) (nI g0))) = z9 := ⟨_, rfl⟩
    rw [hE_G2] at hI
    have hf : gw_fr (mown o q) G G2 := hf.tr (by rw [← hE_G2]; exact gw_fr.up (Or.inl rfl))
    have hM : mdl D G2 o q B 2 f0 l0 g0 fu fn fx fi fl := by rw [← hE_G2]; exact hM.ob hM.f200 hM.l236 hM.g204
    refine lv_aload_n hx hb d_Mo_hurry_48 rfl (lv_at hl 1 rfl) ?_
    refine gw_get M hK hI hM.O i_Mo rfl 0 (by decide) f_Mo_94 rfl (Pv := fun v => v = .int 2) (fun x hx => ⟨_, _, hx, rfl, rfl⟩) d_Mo_hurry_49 (fun v hv => ?_)
    subst hv
    refine lv_if_ne (tgt := 63) hx hb d_Mo_hurry_52 (by decide) (fun c_52 => ?_) (fun q9 => absurd q9 (by decide))
    exact gw_vret M hr hlo hI d_Mo_hurry_63 (⟨Or.inl ⟨Or.inl ((lg_cmp_lt _ _).mp c_26), hM⟩, hf⟩)
  · refine lv_lload_n hx hb d_Mo_hurry_29 rfl (lv_at hl 3 rfl) ?_
    refine lv_aload_n hx hb d_Mo_hurry_30 rfl (lv_at hl 1 rfl) ?_
    refine lv_iload hx hb d_Mo_hurry_31 (lv_at hl 0 rfl) ?_
    refine gw_Vl (As := [.int (nI s1)]) (rest := [.long n2, .ref o]) M hK hI (c_Mo_greatest l o q B t0 f0 l0 g0 fu fn fx fi fl hM (nI s1) s1 rfl hs1) k_Mo_greatest m_Mo_144 hM.O (ci := 6) rfl (fun x hx => ⟨_, hx⟩) rfl hl.1 rfl (Nat.le_of_ble_eq_true rfl) ⟨rfl, rfl, ⟨Nat.le_of_ble_eq_true rfl, Nat.le_of_ble_eq_true rfl⟩, ⟨Nat.le_of_ble_eq_true rfl, Nat.le_of_ble_eq_true rfl⟩⟩ d_Mo_hurry_33 (fun x3 G9 H locs hw hI => ?_)
    obtain ⟨h_x3, hw⟩ := hw
    rw [hw] at hI
    subst h_x3
    refine W.lcmp hx hb d_Mo_hurry_36 ?_
    refine lv_if_le (tgt := 44) hx hb d_Mo_hurry_37 (by decide) (fun c_37 => ?_) (fun c_37 => ?_)
    · refine lv_iconst (v := 0) hx hb d_Mo_hurry_44 (by decide) ?_
      refine gw_put M hK hI hM.O i_Mo t_Mo tk_Mo n_Mo rfl 0 (by decide) f_Mo_94 rfl rfl rfl (kx (mo_ob q 0 (nI f0) (nI l0) (nI g0))) (fun x hx => ⟨_, hx, Nat.le_of_ble_eq_true rfl, rfl⟩) d_Mo_hurry_45 (fun H locs hI => ?_)
      obtain ⟨G4, hE_G4⟩ : ∃ z9, gw_up G o (kx (mo_ob q 0 (nI f0) (nI l0) (nI g0))) = z9 := ⟨_, rfl⟩
      rw [hE_G4] at hI
      have hf : gw_fr (mown o q) G G4 := hf.tr (by rw [← hE_G4]; exact gw_fr.up (Or.inl rfl))
      have hM : mdl D G4 o q B 0 f0 l0 g0 fu fn fx fi fl := by rw [← hE_G4]; exact hM.ob hM.f200 hM.l236 hM.g204
      refine lv_aload_n hx hb d_Mo_hurry_48 rfl (lv_at hl 1 rfl) ?_
      refine gw_get M hK hI hM.O i_Mo rfl 0 (by decide) f_Mo_94 rfl (Pv := fun v => v = .int 0) (fun x hx => ⟨_, _, hx, rfl, rfl⟩) d_Mo_hurry_49 (fun v hv => ?_)
      subst hv
      refine lv_if_ne (tgt := 63) hx hb d_Mo_hurry_52 (by decide) (fun q9 => absurd (by decide) q9) (fun c_52 => ?_)
      refine lv_aload_n hx hb d_Mo_hurry_55 rfl (lv_at hl 1 rfl) ?_
      refine gw_get M hK hI hM.O i_Mo rfl 8 (by decide) f_Mo_32 rfl (Pv := fun v => v = .ref (q 8)) (fun x hx => ⟨_, _, hx, rfl, rfl⟩) d_Mo_hurry_56 (fun v hv => ?_)
      subst hv
      refine lv_iload hx hb d_Mo_hurry_59 (lv_at hl 0 rfl) ?_
      refine lv_lload_n hx hb d_Mo_hurry_61 rfl (lv_at hl 3 rfl) ?_
      refine gw_lastx M hK hI hM.k8 (vp_in_nI hs1 (by decide)) d_Mo_hurry_62 (fun H locs hI => ?_)
      rw [show ((nI s1)).toNatClampNeg = s1 from (nI_clp (by omega))] at hI
      obtain ⟨G5, hE_G5⟩ : ∃ z9, gw_up G4 (q 8) (kx (.inl (D.2 3, 16, .inr (.inl (vp_updL fl s1 n2))))) = z9 := ⟨_, rfl⟩
      rw [hE_G5] at hI
      have hf : gw_fr (mown o q) G G5 := hf.tr (by rw [← hE_G5]; exact gw_fr.up (mown.k rfl))
      have hM : mdl D G5 o q B 0 f0 l0 g0 fu fn fx fi (vp_updL fl s1 n2) := by rw [← hE_G5]; exact hM.ar8 _
      exact gw_vret M hr hlo hI d_Mo_hurry_63 (⟨Or.inr ⟨fun q9 => q9.elim (fun h9 => c_26 ((lg_cmp_lt _ _).mpr h9)) (fun h9 => Int64.not_le.mpr h9 ((lg_cmp_le _ _).mp c_37)), hM⟩, hf⟩)
    · have hr37 := c_37
      refine lv_iconst (v := 2) hx hb d_Mo_hurry_40 (by decide) ?_
      refine lv_goto (tgt := 45) hx hb d_Mo_hurry_41 (by decide) ?_
      refine gw_put M hK hI hM.O i_Mo t_Mo tk_Mo n_Mo rfl 0 (by decide) f_Mo_94 rfl rfl rfl (kx (mo_ob q 2 (nI f0) (nI l0) (nI g0))) (fun x hx => ⟨_, hx, Nat.le_of_ble_eq_true rfl, rfl⟩) d_Mo_hurry_45 (fun H locs hI => ?_)
      obtain ⟨G6, hE_G6⟩ : ∃ z9, gw_up G o (kx (mo_ob q 2 (nI f0) (nI l0) (nI g0))) = z9 := ⟨_, rfl⟩
      rw [hE_G6] at hI
      have hf : gw_fr (mown o q) G G6 := hf.tr (by rw [← hE_G6]; exact gw_fr.up (Or.inl rfl))
      have hM : mdl D G6 o q B 2 f0 l0 g0 fu fn fx fi fl := by rw [← hE_G6]; exact hM.ob hM.f200 hM.l236 hM.g204
      refine lv_aload_n hx hb d_Mo_hurry_48 rfl (lv_at hl 1 rfl) ?_
      refine gw_get M hK hI hM.O i_Mo rfl 0 (by decide) f_Mo_94 rfl (Pv := fun v => v = .int 2) (fun x hx => ⟨_, _, hx, rfl, rfl⟩) d_Mo_hurry_49 (fun v hv => ?_)
      subst hv
      refine lv_if_ne (tgt := 63) hx hb d_Mo_hurry_52 (by decide) (fun c_52 => ?_) (fun q9 => absurd q9 (by decide))
      exact gw_vret M hr hlo hI d_Mo_hurry_63 (⟨Or.inl ⟨Or.inr (Int64.not_le.mp (fun q9 => c_37 ((lg_cmp_le _ _).mpr q9))), hM⟩, hf⟩)

abbrev rm_Mo_hurryn : Room := { frames := 1, cells := 0, slots := 0, locals := 22 }
set_option maxHeartbeats 4000000 in
set_option maxRecDepth 100000 in
theorem c_Mo_hurryn (l : Launch) {D : gw_D} {Hs : Heap} {G : gw_G} (o : Nat) (q : Nat → Nat) (B : Nat) (t0 : Int32) (f0 l0 g0 : Nat) (fu fn fx fi : Nat → Int32) (fl : Nat → Int64) (hM : mdl D G o q B t0 f0 l0 g0 fu fn fx fi fl) (n1 : Int32) (hfi : ∀ j, j < 16 → ¬ (¬ fu j = 0 ∧ fn j = n1)) (n2 : Int64) : Met l y_Mo_hurry (Cond.code y_Mo_hurry b_Mo_hurry 5 none :: tb) rm_Mo_hurryn (gw_Pc D Hs G [.ref o, .int n1, .long n2]) (gw_Qv D Hs (fun G1 => mdl D G1 o q B 1 f0 l0 g0 fu fn fx fi fl ∧ gw_fr (mown o q) G G1)) 0 0 (gw_A Hs) := by
  refine gw_met (by decide) (Nat.le_of_ble_eq_true rfl) ?_
  intro p e s m args below meth c M hK hr hlo hin hI ls hl
  have hx := M.1
  have hb := M.2.1
  have hl : lv_has ls 5 [(0, .ref o), (1, .int n1), (2, .long n2)] := hl
  have hf : gw_fr (mown o q) G G := gw_fr.rf
  refine lv_aload_n hx hb d_Mo_hurry_0 rfl (lv_at hl 0 rfl) ?_
  refine lv_iload_n hx hb d_Mo_hurry_1 rfl (lv_at hl 1 rfl) ?_
  refine gw_Vi (As := [.int n1]) (rest := []) M hK hI (c_Mo_findn l o q B t0 f0 l0 g0 fu fn fx fi fl hM n1 hfi) k_Mo_find m_Mo_135 hM.O (ci := 6) rfl (fun x hx => ⟨_, hx⟩) rfl hl.1 rfl (Nat.le_of_ble_eq_true rfl) ⟨rfl, rfl, ⟨Nat.le_of_ble_eq_true rfl, Nat.le_of_ble_eq_true rfl⟩, ⟨Nat.le_of_ble_eq_true rfl, Nat.le_of_ble_eq_true rfl⟩⟩ d_Mo_hurry_2 (fun x1 G9 H locs hw hI => ?_)
  obtain ⟨h_x1, hw⟩ := hw
  rw [hw] at hI
  subst h_x1
  refine lv_istore (lv' := [(4, .int (-1)), (0, .ref o), (1, .int n1), (2, .long n2)]) hx hb d_Mo_hurry_5 hl (by decide) rfl (fun ls hl => ?_)
  refine lv_aload_n hx hb d_Mo_hurry_7 rfl (lv_at hl 1 rfl) ?_
  refine lv_iload hx hb d_Mo_hurry_8 (lv_at hl 0 rfl) ?_
  refine lv_if_ge (tgt := 17) hx hb d_Mo_hurry_10 (by decide) (fun q9 => absurd q9 (by decide)) (fun c_10 => ?_)
  refine lv_iconst (v := 1) hx hb d_Mo_hurry_13 (by decide) ?_
  refine lv_goto (tgt := 45) hx hb d_Mo_hurry_14 (by decide) ?_
  refine gw_put M hK hI hM.O i_Mo t_Mo tk_Mo n_Mo rfl 0 (by decide) f_Mo_94 rfl rfl rfl (kx (mo_ob q 1 (nI f0) (nI l0) (nI g0))) (fun x hx => ⟨_, hx, Nat.le_of_ble_eq_true rfl, rfl⟩) d_Mo_hurry_45 (fun H locs hI => ?_)
  obtain ⟨G2, hE_G2⟩ : ∃ z9, gw_up G o (kx (mo_ob q 1 (nI f0) (nI l0) (nI g0))) = z9 := ⟨_, rfl⟩
  rw [hE_G2] at hI
  have hf : gw_fr (mown o q) G G2 := hf.tr (by rw [← hE_G2]; exact gw_fr.up (Or.inl rfl))
  have hM : mdl D G2 o q B 1 f0 l0 g0 fu fn fx fi fl := by rw [← hE_G2]; exact hM.ob hM.f200 hM.l236 hM.g204
  refine lv_aload_n hx hb d_Mo_hurry_48 rfl (lv_at hl 1 rfl) ?_
  refine gw_get M hK hI hM.O i_Mo rfl 0 (by decide) f_Mo_94 rfl (Pv := fun v => v = .int 1) (fun x hx => ⟨_, _, hx, rfl, rfl⟩) d_Mo_hurry_49 (fun v hv => ?_)
  subst hv
  refine lv_if_ne (tgt := 63) hx hb d_Mo_hurry_52 (by decide) (fun c_52 => ?_) (fun q9 => absurd q9 (by decide))
  exact gw_vret M hr hlo hI d_Mo_hurry_63 (⟨hM, hf⟩)

abbrev rm_Mo_lifef : Room := { frames := 1, cells := 0, slots := 0, locals := 22 }
set_option maxHeartbeats 4000000 in
set_option maxRecDepth 100000 in
theorem c_Mo_lifef (l : Launch) {D : gw_D} {Hs : Heap} {G : gw_G} (o : Nat) (q : Nat → Nat) (B : Nat) (t0 : Int32) (f0 l0 g0 : Nat) (fu fn fx fi : Nat → Int32) (fl : Nat → Int64) (hM : mdl D G o q B t0 f0 l0 g0 fu fn fx fi fl) (n1 : Int32) (s1 : Nat) (hfi : isFi fu fn n1 s1) (hs1 : s1 < 16) (n2 : Int32) : Met l y_Mo_life (Cond.code y_Mo_life b_Mo_life 5 (some .int) :: tb) rm_Mo_lifef (gw_Pc D Hs G [.ref o, .int n1, .int n2]) (gw_Qi D Hs (fun r G1 => ((n2 < 0 ∧ mdl D G1 o q B 2 f0 l0 g0 fu fn fx fi fl) ∨ (¬ n2 < 0 ∧ r = fi s1 ∧ mdl D G1 o q B 0 f0 l0 g0 fu fn fx (upd fi s1 n2) fl)) ∧ gw_fr (mown o q) G G1)) 0 0 (gw_A Hs) := by
  refine gw_met (by decide) (Nat.le_of_ble_eq_true rfl) ?_
  intro p e s m args below meth c M hK hr hlo hin hI ls hl
  have hx := M.1
  have hb := M.2.1
  have hl : lv_has ls 5 [(0, .ref o), (1, .int n1), (2, .int n2)] := hl
  have hf : gw_fr (mown o q) G G := gw_fr.rf
  refine lv_aload_n hx hb d_Mo_life_0 rfl (lv_at hl 0 rfl) ?_
  refine lv_iload_n hx hb d_Mo_life_1 rfl (lv_at hl 1 rfl) ?_
  refine gw_Vi (As := [.int n1]) (rest := []) M hK hI (c_Mo_findf l o q B t0 f0 l0 g0 fu fn fx fi fl hM n1 s1 hfi hs1) k_Mo_find m_Mo_135 hM.O (ci := 6) rfl (fun x hx => ⟨_, hx⟩) rfl hl.1 rfl (Nat.le_of_ble_eq_true rfl) ⟨rfl, rfl, ⟨Nat.le_of_ble_eq_true rfl, Nat.le_of_ble_eq_true rfl⟩, ⟨Nat.le_of_ble_eq_true rfl, Nat.le_of_ble_eq_true rfl⟩⟩ d_Mo_life_2 (fun x1 G9 H locs hw hI => ?_)
  obtain ⟨h_x1, hw⟩ := hw
  rw [hw] at hI
  subst h_x1
  refine lv_istore_n (lv' := [(3, .int (nI s1)), (0, .ref o), (1, .int n1), (2, .int n2)]) hx hb d_Mo_life_5 rfl hl (by decide) rfl (fun ls hl => ?_)
  refine lv_aload_n hx hb d_Mo_life_6 rfl (lv_at hl 1 rfl) ?_
  refine lv_iload_n hx hb d_Mo_life_7 rfl (lv_at hl 0 rfl) ?_
  refine lv_if_ge (tgt := 15) hx hb d_Mo_life_8 (by decide) (fun c_8 => ?_) (fun q9 => absurd (Int32.not_lt.mp (nI_nn (by omega))) q9)
  refine lv_iload_n hx hb d_Mo_life_15 rfl (lv_at hl 3 rfl) ?_
  refine lv_if_ge (tgt := 23) hx hb d_Mo_life_16 (by decide) (fun c_16 => ?_) (fun c_16 => ?_)
  · refine lv_iconst (v := 0) hx hb d_Mo_life_23 (by decide) ?_
    refine gw_put M hK hI hM.O i_Mo t_Mo tk_Mo n_Mo rfl 0 (by decide) f_Mo_94 rfl rfl rfl (kx (mo_ob q 0 (nI f0) (nI l0) (nI g0))) (fun x hx => ⟨_, hx, Nat.le_of_ble_eq_true rfl, rfl⟩) d_Mo_life_24 (fun H locs hI => ?_)
    obtain ⟨G2, hE_G2⟩ : ∃ z9, gw_up G o (kx (mo_ob q 0 (nI f0) (nI l0) (nI g0))) = z9 := ⟨_, rfl⟩
    rw [hE_G2] at hI
    have hf : gw_fr (mown o q) G G2 := hf.tr (by rw [← hE_G2]; exact gw_fr.up (Or.inl rfl))
    have hM : mdl D G2 o q B 0 f0 l0 g0 fu fn fx fi fl := by rw [← hE_G2]; exact hM.ob hM.f200 hM.l236 hM.g204
    refine lv_aload_n hx hb d_Mo_life_27 rfl (lv_at hl 1 rfl) ?_
    refine gw_get M hK hI hM.O i_Mo rfl 0 (by decide) f_Mo_94 rfl (Pv := fun v => v = .int 0) (fun x hx => ⟨_, _, hx, rfl, rfl⟩) d_Mo_life_28 (fun v hv => ?_)
    subst hv
    refine lv_if_le (tgt := 36) hx hb d_Mo_life_31 (by decide) (fun c_31 => ?_) (fun q9 => absurd (by decide) q9)
    refine lv_aload_n hx hb d_Mo_life_36 rfl (lv_at hl 1 rfl) ?_
    refine gw_get M hK hI hM.O i_Mo rfl 9 (by decide) f_Mo_36 rfl (Pv := fun v => v = .ref (q 9)) (fun x hx => ⟨_, _, hx, rfl, rfl⟩) d_Mo_life_37 (fun v hv => ?_)
    subst hv
    refine lv_iload_n hx hb d_Mo_life_40 rfl (lv_at hl 0 rfl) ?_
    refine gw_ialdx M hK hI hM.k9 (vp_in_nI hs1 (by decide)) d_Mo_life_41 ?_
    rw [show ((nI s1)).toNatClampNeg = s1 from (nI_clp (by omega))]
    refine lv_topi (fun x3 e_x3 => ?_)
    refine lv_istore (lv' := [(4, .int x3), (3, .int (nI s1)), (0, .ref o), (1, .int n1), (2, .int n2)]) hx hb d_Mo_life_42 hl (by decide) rfl (fun ls hl => ?_)
    refine lv_aload_n hx hb d_Mo_life_44 rfl (lv_at hl 2 rfl) ?_
    refine gw_get M hK hI hM.O i_Mo rfl 9 (by decide) f_Mo_36 rfl (Pv := fun v => v = .ref (q 9)) (fun x hx => ⟨_, _, hx, rfl, rfl⟩) d_Mo_life_45 (fun v hv => ?_)
    subst hv
    refine lv_iload_n hx hb d_Mo_life_48 rfl (lv_at hl 1 rfl) ?_
    refine lv_iload_n hx hb d_Mo_life_49 rfl (lv_at hl 4 rfl) ?_
    refine gw_iastx M hK hI hM.k9 (vp_in_nI hs1 (by decide)) d_Mo_life_50 (fun H locs hI => ?_)
    rw [show ((nI s1)).toNatClampNeg = s1 from (nI_clp (by omega))] at hI
    obtain ⟨G4, hE_G4⟩ : ∃ z9, gw_up G2 (q 9) (kx (.inl (D.2 0, 16, .inl (upd fi s1 n2)))) = z9 := ⟨_, rfl⟩
    rw [hE_G4] at hI
    have hf : gw_fr (mown o q) G G4 := hf.tr (by rw [← hE_G4]; exact gw_fr.up (mown.k rfl))
    have hM : mdl D G4 o q B 0 f0 l0 g0 fu fn fx (upd fi s1 n2) fl := by rw [← hE_G4]; exact hM.ar9 _
    refine lv_iload hx hb d_Mo_life_51 (lv_at hl 0 rfl) ?_
    exact gw_iret M hr hlo hI d_Mo_life_53 (⟨Or.inr ⟨Int32.not_lt.mpr c_16, e_x3, hM⟩, hf⟩)
  · refine lv_iconst (v := 2) hx hb d_Mo_life_19 (by decide) ?_
    refine lv_goto (tgt := 24) hx hb d_Mo_life_20 (by decide) ?_
    refine gw_put M hK hI hM.O i_Mo t_Mo tk_Mo n_Mo rfl 0 (by decide) f_Mo_94 rfl rfl rfl (kx (mo_ob q 2 (nI f0) (nI l0) (nI g0))) (fun x hx => ⟨_, hx, Nat.le_of_ble_eq_true rfl, rfl⟩) d_Mo_life_24 (fun H locs hI => ?_)
    obtain ⟨G5, hE_G5⟩ : ∃ z9, gw_up G o (kx (mo_ob q 2 (nI f0) (nI l0) (nI g0))) = z9 := ⟨_, rfl⟩
    rw [hE_G5] at hI
    have hf : gw_fr (mown o q) G G5 := hf.tr (by rw [← hE_G5]; exact gw_fr.up (Or.inl rfl))
    have hM : mdl D G5 o q B 2 f0 l0 g0 fu fn fx fi fl := by rw [← hE_G5]; exact hM.ob hM.f200 hM.l236 hM.g204
    refine lv_aload_n hx hb d_Mo_life_27 rfl (lv_at hl 1 rfl) ?_
    refine gw_get M hK hI hM.O i_Mo rfl 0 (by decide) f_Mo_94 rfl (Pv := fun v => v = .int 2) (fun x hx => ⟨_, _, hx, rfl, rfl⟩) d_Mo_life_28 (fun v hv => ?_)
    subst hv
    refine lv_if_le (tgt := 36) hx hb d_Mo_life_31 (by decide) (fun q9 => absurd q9 (by decide)) (fun c_31 => ?_)
    refine lv_iconst (v := 0) hx hb d_Mo_life_34 (by decide) ?_
    exact gw_iret M hr hlo hI d_Mo_life_35 (⟨Or.inl ⟨Int32.not_le.mp c_16, hM⟩, hf⟩)

abbrev rm_Mo_lifen : Room := { frames := 1, cells := 0, slots := 0, locals := 22 }
set_option maxHeartbeats 4000000 in
set_option maxRecDepth 100000 in
theorem c_Mo_lifen (l : Launch) {D : gw_D} {Hs : Heap} {G : gw_G} (o : Nat) (q : Nat → Nat) (B : Nat) (t0 : Int32) (f0 l0 g0 : Nat) (fu fn fx fi : Nat → Int32) (fl : Nat → Int64) (hM : mdl D G o q B t0 f0 l0 g0 fu fn fx fi fl) (n1 : Int32) (hfi : ∀ j, j < 16 → ¬ (¬ fu j = 0 ∧ fn j = n1)) (n2 : Int32) : Met l y_Mo_life (Cond.code y_Mo_life b_Mo_life 5 (some .int) :: tb) rm_Mo_lifen (gw_Pc D Hs G [.ref o, .int n1, .int n2]) (gw_Qi D Hs (fun r G1 => mdl D G1 o q B 1 f0 l0 g0 fu fn fx fi fl ∧ gw_fr (mown o q) G G1)) 0 0 (gw_A Hs) := by
  refine gw_met (by decide) (Nat.le_of_ble_eq_true rfl) ?_
  intro p e s m args below meth c M hK hr hlo hin hI ls hl
  have hx := M.1
  have hb := M.2.1
  have hl : lv_has ls 5 [(0, .ref o), (1, .int n1), (2, .int n2)] := hl
  have hf : gw_fr (mown o q) G G := gw_fr.rf
  refine lv_aload_n hx hb d_Mo_life_0 rfl (lv_at hl 0 rfl) ?_
  refine lv_iload_n hx hb d_Mo_life_1 rfl (lv_at hl 1 rfl) ?_
  refine gw_Vi (As := [.int n1]) (rest := []) M hK hI (c_Mo_findn l o q B t0 f0 l0 g0 fu fn fx fi fl hM n1 hfi) k_Mo_find m_Mo_135 hM.O (ci := 6) rfl (fun x hx => ⟨_, hx⟩) rfl hl.1 rfl (Nat.le_of_ble_eq_true rfl) ⟨rfl, rfl, ⟨Nat.le_of_ble_eq_true rfl, Nat.le_of_ble_eq_true rfl⟩, ⟨Nat.le_of_ble_eq_true rfl, Nat.le_of_ble_eq_true rfl⟩⟩ d_Mo_life_2 (fun x1 G9 H locs hw hI => ?_)
  obtain ⟨h_x1, hw⟩ := hw
  rw [hw] at hI
  subst h_x1
  refine lv_istore_n (lv' := [(3, .int (-1)), (0, .ref o), (1, .int n1), (2, .int n2)]) hx hb d_Mo_life_5 rfl hl (by decide) rfl (fun ls hl => ?_)
  refine lv_aload_n hx hb d_Mo_life_6 rfl (lv_at hl 1 rfl) ?_
  refine lv_iload_n hx hb d_Mo_life_7 rfl (lv_at hl 0 rfl) ?_
  refine lv_if_ge (tgt := 15) hx hb d_Mo_life_8 (by decide) (fun q9 => absurd q9 (by decide)) (fun c_8 => ?_)
  refine lv_iconst (v := 1) hx hb d_Mo_life_11 (by decide) ?_
  refine lv_goto (tgt := 24) hx hb d_Mo_life_12 (by decide) ?_
  refine gw_put M hK hI hM.O i_Mo t_Mo tk_Mo n_Mo rfl 0 (by decide) f_Mo_94 rfl rfl rfl (kx (mo_ob q 1 (nI f0) (nI l0) (nI g0))) (fun x hx => ⟨_, hx, Nat.le_of_ble_eq_true rfl, rfl⟩) d_Mo_life_24 (fun H locs hI => ?_)
  obtain ⟨G2, hE_G2⟩ : ∃ z9, gw_up G o (kx (mo_ob q 1 (nI f0) (nI l0) (nI g0))) = z9 := ⟨_, rfl⟩
  rw [hE_G2] at hI
  have hf : gw_fr (mown o q) G G2 := hf.tr (by rw [← hE_G2]; exact gw_fr.up (Or.inl rfl))
  have hM : mdl D G2 o q B 1 f0 l0 g0 fu fn fx fi fl := by rw [← hE_G2]; exact hM.ob hM.f200 hM.l236 hM.g204
  refine lv_aload_n hx hb d_Mo_life_27 rfl (lv_at hl 1 rfl) ?_
  refine gw_get M hK hI hM.O i_Mo rfl 0 (by decide) f_Mo_94 rfl (Pv := fun v => v = .int 1) (fun x hx => ⟨_, _, hx, rfl, rfl⟩) d_Mo_life_28 (fun v hv => ?_)
  subst hv
  refine lv_if_le (tgt := 36) hx hb d_Mo_life_31 (by decide) (fun q9 => absurd q9 (by decide)) (fun c_31 => ?_)
  refine lv_iconst (v := 0) hx hb d_Mo_life_34 (by decide) ?_
  exact gw_iret M hr hlo hI d_Mo_life_35 (⟨hM, hf⟩)

abbrev rm_Mo_feedb : Room := { frames := 0, cells := 0, slots := 0, locals := 0 }
set_option maxHeartbeats 4000000 in
set_option maxRecDepth 100000 in
theorem c_Mo_feedb (l : Launch) {D : gw_D} {Hs : Heap} {G : gw_G} (o : Nat) (q : Nat → Nat) (B : Nat) (t0 : Int32) (f0 l0 g0 : Nat) (fu fn fx fi : Nat → Int32) (fl : Nat → Int64) (hM : mdl D G o q B t0 f0 l0 g0 fu fn fx fi fl) (a1 : Int32) (b0 : Int64) (hbad : a1 < 1 ∨ ¬ a1 ≤ 8) : Met l y_Mo_feed (Cond.code y_Mo_feed b_Mo_feed 5 (some .int) :: tb) rm_Mo_feedb (gw_Pc D Hs G [.ref o, .int a1, .long b0]) (gw_Qi D Hs (fun r G1 => mdl D G1 o q B 1 f0 l0 g0 fu fn fx fi fl ∧ gw_fr (mown o q) G G1)) 0 0 (gw_A Hs) := by
  refine gw_met (by decide) (Nat.le_of_ble_eq_true rfl) ?_
  intro p e s m args below meth c M hK hr hlo hin hI ls hl
  have hx := M.1
  have hb := M.2.1
  have hl : lv_has ls 5 [(0, .ref o), (1, .int a1), (2, .long b0)] := hl
  have hf : gw_fr (mown o q) G G := gw_fr.rf
  refine lv_aload_n hx hb d_Mo_feed_0 rfl (lv_at hl 0 rfl) ?_
  refine lv_iload_n hx hb d_Mo_feed_1 rfl (lv_at hl 1 rfl) ?_
  refine lv_iconst (v := 1) hx hb d_Mo_feed_2 (by decide) ?_
  refine lv_icmp_lt (tgt := 12) hx hb d_Mo_feed_3 (by decide) (fun c_3 => ?_) (fun c_3 => ?_)
  · refine lv_iconst (v := 1) hx hb d_Mo_feed_12 (by decide) ?_
    refine lv_goto (tgt := 17) hx hb d_Mo_feed_13 (by decide) ?_
    refine gw_put M hK hI hM.O i_Mo t_Mo tk_Mo n_Mo rfl 0 (by decide) f_Mo_94 rfl rfl rfl (kx (mo_ob q 1 (nI f0) (nI l0) (nI g0))) (fun x hx => ⟨_, hx, Nat.le_of_ble_eq_true rfl, rfl⟩) d_Mo_feed_17 (fun H locs hI => ?_)
    obtain ⟨G1, hE_G1⟩ : ∃ z9, gw_up G o (kx (mo_ob q 1 (nI f0) (nI l0) (nI g0))) = z9 := ⟨_, rfl⟩
    rw [hE_G1] at hI
    have hf : gw_fr (mown o q) G G1 := hf.tr (by rw [← hE_G1]; exact gw_fr.up (Or.inl rfl))
    have hM : mdl D G1 o q B 1 f0 l0 g0 fu fn fx fi fl := by rw [← hE_G1]; exact hM.ob hM.f200 hM.l236 hM.g204
    refine lv_aload_n hx hb d_Mo_feed_20 rfl (lv_at hl 0 rfl) ?_
    refine gw_get M hK hI hM.O i_Mo rfl 0 (by decide) f_Mo_94 rfl (Pv := fun v => v = .int 1) (fun x hx => ⟨_, _, hx, rfl, rfl⟩) d_Mo_feed_21 (fun v hv => ?_)
    subst hv
    refine lv_if_le (tgt := 29) hx hb d_Mo_feed_24 (by decide) (fun q9 => absurd q9 (by decide)) (fun c_24 => ?_)
    refine lv_iconst (v := 0) hx hb d_Mo_feed_27 (by decide) ?_
    exact gw_iret M hr hlo hI d_Mo_feed_28 (⟨hM, hf⟩)
  · refine lv_iload_n hx hb d_Mo_feed_6 rfl (lv_at hl 1 rfl) ?_
    refine lv_bipush (v := 8) hx hb d_Mo_feed_7 (by decide) ?_
    refine lv_icmp_le (tgt := 16) hx hb d_Mo_feed_9 (by decide) (fun q9 => absurd q9 (hbad.resolve_left c_3)) (fun c_9 => ?_)
    refine lv_iconst (v := 1) hx hb d_Mo_feed_12 (by decide) ?_
    refine lv_goto (tgt := 17) hx hb d_Mo_feed_13 (by decide) ?_
    refine gw_put M hK hI hM.O i_Mo t_Mo tk_Mo n_Mo rfl 0 (by decide) f_Mo_94 rfl rfl rfl (kx (mo_ob q 1 (nI f0) (nI l0) (nI g0))) (fun x hx => ⟨_, hx, Nat.le_of_ble_eq_true rfl, rfl⟩) d_Mo_feed_17 (fun H locs hI => ?_)
    obtain ⟨G2, hE_G2⟩ : ∃ z9, gw_up G o (kx (mo_ob q 1 (nI f0) (nI l0) (nI g0))) = z9 := ⟨_, rfl⟩
    rw [hE_G2] at hI
    have hf : gw_fr (mown o q) G G2 := hf.tr (by rw [← hE_G2]; exact gw_fr.up (Or.inl rfl))
    have hM : mdl D G2 o q B 1 f0 l0 g0 fu fn fx fi fl := by rw [← hE_G2]; exact hM.ob hM.f200 hM.l236 hM.g204
    refine lv_aload_n hx hb d_Mo_feed_20 rfl (lv_at hl 0 rfl) ?_
    refine gw_get M hK hI hM.O i_Mo rfl 0 (by decide) f_Mo_94 rfl (Pv := fun v => v = .int 1) (fun x hx => ⟨_, _, hx, rfl, rfl⟩) d_Mo_feed_21 (fun v hv => ?_)
    subst hv
    refine lv_if_le (tgt := 29) hx hb d_Mo_feed_24 (by decide) (fun q9 => absurd q9 (by decide)) (fun c_24 => ?_)
    refine lv_iconst (v := 0) hx hb d_Mo_feed_27 (by decide) ?_
    exact gw_iret M hr hlo hI d_Mo_feed_28 (⟨hM, hf⟩)

abbrev rm_Mo_feed : Room := { frames := 0, cells := 0, slots := 0, locals := 0 }
set_option maxHeartbeats 4000000 in
set_option maxRecDepth 100000 in
theorem c_Mo_feed (l : Launch) {D : gw_D} {Hs : Heap} {G : gw_G} (o : Nat) (q : Nat → Nat) (B : Nat) (t0 : Int32) (f0 l0 g0 : Nat) (fu fn fx fi : Nat → Int32) (fl : Nat → Int64) (hM : mdl D G o q B t0 f0 l0 g0 fu fn fx fi fl) (a1 : Int32) (b0 : Int64) (n : Nat) (ha1 : a1 = nI n) (hn1 : 1 ≤ n) (hn8 : n ≤ 8) : Met l y_Mo_feed (Cond.code y_Mo_feed b_Mo_feed 5 (some .int) :: tb) rm_Mo_feed (gw_Pc D Hs G [.ref o, .int a1, .long b0]) (gw_Qi D Hs (fun r G1 => ((200 < f0 + n ∧ r = -1 ∧ mdl D G1 o q B 0 f0 l0 g0 fu fn fx fi fl) ∨ (f0 + n ≤ 200 ∧ r = nI (f0 + n) ∧ mdl D G1 o q B 0 (f0 + n) l0 g0 fu fn fx fi fl)) ∧ gw_fr (mown o q) G G1)) 0 0 (gw_A Hs) := by
  refine gw_met (by decide) (Nat.le_of_ble_eq_true rfl) ?_
  intro p e s m args below meth c M hK hr hlo hin hI ls hl
  have hx := M.1
  have hb := M.2.1
  have hl : lv_has ls 5 [(0, .ref o), (1, .int a1), (2, .long b0)] := hl
  have hf : gw_fr (mown o q) G G := gw_fr.rf
  have hf200 := hM.f200
  refine lv_aload_n hx hb d_Mo_feed_0 rfl (lv_at hl 0 rfl) ?_
  refine lv_iload_n hx hb d_Mo_feed_1 rfl (lv_at hl 1 rfl) ?_
  refine lv_iconst (v := 1) hx hb d_Mo_feed_2 (by decide) ?_
  refine lv_icmp_lt (tgt := 12) hx hb d_Mo_feed_3 (by decide) (fun q9 => absurd q9 (fun h9 => by have h7 := nb_lt' (n := 1) ha1 h9 (by decide) (by omega); omega)) (fun c_3 => ?_)
  refine lv_iload_n hx hb d_Mo_feed_6 rfl (lv_at hl 1 rfl) ?_
  refine lv_bipush (v := 8) hx hb d_Mo_feed_7 (by decide) ?_
  refine lv_icmp_le (tgt := 16) hx hb d_Mo_feed_9 (by decide) (fun c_9 => ?_) (fun q9 => absurd (by rw [ha1]; exact nI_le (a := n) (b := 8) hn8 (by decide)) q9)
  refine lv_iconst (v := 0) hx hb d_Mo_feed_16 (by decide) ?_
  refine gw_put M hK hI hM.O i_Mo t_Mo tk_Mo n_Mo rfl 0 (by decide) f_Mo_94 rfl rfl rfl (kx (mo_ob q 0 (nI f0) (nI l0) (nI g0))) (fun x hx => ⟨_, hx, Nat.le_of_ble_eq_true rfl, rfl⟩) d_Mo_feed_17 (fun H locs hI => ?_)
  obtain ⟨G1, hE_G1⟩ : ∃ z9, gw_up G o (kx (mo_ob q 0 (nI f0) (nI l0) (nI g0))) = z9 := ⟨_, rfl⟩
  rw [hE_G1] at hI
  have hf : gw_fr (mown o q) G G1 := hf.tr (by rw [← hE_G1]; exact gw_fr.up (Or.inl rfl))
  have hM : mdl D G1 o q B 0 f0 l0 g0 fu fn fx fi fl := by rw [← hE_G1]; exact hM.ob hM.f200 hM.l236 hM.g204
  refine lv_aload_n hx hb d_Mo_feed_20 rfl (lv_at hl 0 rfl) ?_
  refine gw_get M hK hI hM.O i_Mo rfl 0 (by decide) f_Mo_94 rfl (Pv := fun v => v = .int 0) (fun x hx => ⟨_, _, hx, rfl, rfl⟩) d_Mo_feed_21 (fun v hv => ?_)
  subst hv
  refine lv_if_le (tgt := 29) hx hb d_Mo_feed_24 (by decide) (fun c_24 => ?_) (fun q9 => absurd (by decide) q9)
  refine lv_aload_n hx hb d_Mo_feed_29 rfl (lv_at hl 0 rfl) ?_
  refine gw_get M hK hI hM.O i_Mo rfl 17 (by decide) f_Mo_148 rfl (Pv := fun v => v = .int (nI f0)) (fun x hx => ⟨_, _, hx, rfl, rfl⟩) d_Mo_feed_30 (fun v hv => ?_)
  subst hv
  refine lv_iload_n hx hb d_Mo_feed_33 rfl (lv_at hl 1 rfl) ?_
  refine lv_iadd hx hb d_Mo_feed_34 ?_
  refine lv_sipush (v := 200) hx hb d_Mo_feed_35 (by decide) ?_
  refine lv_icmp_le (tgt := 43) hx hb d_Mo_feed_38 (by decide) (fun c_38 => ?_) (fun c_38 => ?_)
  · have h200 : f0 + n ≤ 200 := nb_le' (n := 200) (nb_aa rfl ha1) c_38 (by decide) (by omega)
    refine lv_iconst (v := 0) hx hb d_Mo_feed_43 (by decide) ?_
    refine lv_istore (lv' := [(4, .int 0), (0, .ref o), (1, .int a1), (2, .long b0)]) hx hb d_Mo_feed_44 hl (by decide) rfl (fun ls hl => ?_)
    have L_46 : ∀ (n9 : Nat) (k : Nat) (y4 : Int32) (Gk : gw_G) (H : Heap) (locs : List Loc) (ls : Array Slot), k ≤ n → y4 = nI k → mdl D Gk o q B 0 (f0 + k) l0 g0 fu fn fx fi fl → gw_fr (mown o q) G Gk → n - k < n9 → gw_I D Hs Gk s.heap H locs → lv_has ls 5 [(4, .int y4), (0, .ref o), (1, .int a1), (2, .long b0)] → W p l e rm_Mo_feed s m args below meth c H locs 0 0 (MQ below (gw_Qi D Hs (fun r G1 => ((200 < f0 + n ∧ r = -1 ∧ mdl D G1 o q B 0 f0 l0 g0 fu fn fx fi fl) ∨ (f0 + n ≤ 200 ∧ r = nI (f0 + n) ∧ mdl D G1 o q B 0 (f0 + n) l0 g0 fu fn fx fi fl)) ∧ gw_fr (mown o q) G G1)) args s 0 0 (gw_A Hs)) (F0 m 46 ls []) := by
      intro n9
      induction n9 with
      | zero =>
        intro k y4 Gk H locs ls bk hk hM hf hm hI hl
        exact absurd hm (Nat.not_lt_zero _)
      | succ n9 ih_46 =>
        intro k y4 Gk H locs ls bk hk hM hf hm_46 hI hl
        refine lv_iload hx hb d_Mo_feed_46 (lv_at hl 0 rfl) ?_
        refine lv_iload_n hx hb d_Mo_feed_48 rfl (lv_at hl 2 rfl) ?_
        refine lv_icmp_ge (tgt := 89) hx hb d_Mo_feed_49 (by decide) (fun c_49 => ?_) (fun c_49 => ?_)
        · have hkn : n = k := (Nat.le_antisymm bk (nb_ge (n := n) hk (by rw [← ha1]; exact c_49) (by omega) (by omega))).symm
          subst hkn
          have hkk := bk
          refine lv_aload_n hx hb d_Mo_feed_89 rfl (lv_at hl 1 rfl) ?_
          refine gw_get M hK hI hM.O i_Mo rfl 17 (by decide) f_Mo_148 rfl (Pv := fun v => v = .int (nI (f0 + n))) (fun x hx => ⟨_, _, hx, rfl, rfl⟩) d_Mo_feed_90 (fun v hv => ?_)
          subst hv
          exact gw_iret M hr hlo hI d_Mo_feed_93 (⟨Or.inr ⟨h200, rfl, hM⟩, hf⟩)
        · have lk : k < n := nb_lt (n := n) hk (by rw [← ha1]; exact c_49) (by omega) (by omega)
          refine lv_aload_n hx hb d_Mo_feed_52 rfl (lv_at hl 1 rfl) ?_
          refine gw_get M hK hI hM.O i_Mo rfl 16 (by decide) f_Mo_57 rfl (Pv := fun v => v = .ref (q 16)) (fun x hx => ⟨_, _, hx, rfl, rfl⟩) d_Mo_feed_53 (fun v hv => ?_)
          subst hv
          refine lv_aload_n hx hb d_Mo_feed_56 rfl (lv_at hl 1 rfl) ?_
          refine gw_get M hK hI hM.O i_Mo rfl 17 (by decide) f_Mo_148 rfl (Pv := fun v => v = .int (nI (f0 + k))) (fun x hx => ⟨_, _, hx, rfl, rfl⟩) d_Mo_feed_57 (fun v hv => ?_)
          subst hv
          refine lv_lload_n hx hb d_Mo_feed_60 rfl (lv_at hl 3 rfl) ?_
          refine lv_bipush (v := 8) hx hb d_Mo_feed_61 (by decide) ?_
          refine lv_iload hx hb d_Mo_feed_63 (lv_at hl 0 rfl) ?_
          refine lv_imul hx hb d_Mo_feed_65 ?_
          refine lv_lshr hx hb d_Mo_feed_66 rfl ?_
          refine lv_ldc2 (v := 255) hx hb M.2.2.2.1 (M.2.2.2.2 _ o_Mo_98) d_Mo_feed_67 ?_
          refine lv_land hx hb d_Mo_feed_70 ?_
          refine lv_l2i hx hb d_Mo_feed_71 rfl ?_
          refine lv_topi (fun x2 e_x2 => ?_)
          refine gw_iast M hK hI hM.k16 (vp_in_nI (by omega) (by decide)) (by rw [e_x2]; exact (l255 _)) d_Mo_feed_72 (fun H locs hI => ?_)
          refine lv_aload_n hx hb d_Mo_feed_73 rfl (lv_at hl 1 rfl) ?_
          refine lv_dup hx hb d_Mo_feed_74 rfl ?_
          refine gw_get M hK hI hM.O i_Mo rfl 17 (by decide) f_Mo_148 rfl (Pv := fun v => v = .int (nI (f0 + k))) (fun x hx => ⟨_, _, hx, rfl, rfl⟩) d_Mo_feed_75 (fun v hv => ?_)
          subst hv
          refine lv_iconst (v := 1) hx hb d_Mo_feed_78 (by decide) ?_
          refine lv_iadd hx hb d_Mo_feed_79 ?_
          refine lv_topi (fun x3 e_x3 => ?_)
          have hv9 : x3 = nI (f0 + (k + 1)) := (by rw [e_x3]; exact nI_1 _)
          subst hv9
          refine gw_put M hK hI hM.O i_Mo t_Mo tk_Mo n_Mo rfl 17 (by decide) f_Mo_148 rfl rfl rfl (kx (mo_ob q 0 (nI (f0 + (k + 1))) (nI l0) (nI g0))) (fun x hx => ⟨_, hx, Nat.le_of_ble_eq_true rfl, rfl⟩) d_Mo_feed_80 (fun H locs hI => ?_)
          obtain ⟨G4, hE_G4⟩ : ∃ z9, gw_up Gk o (kx (mo_ob q 0 (nI (f0 + (k + 1))) (nI l0) (nI g0))) = z9 := ⟨_, rfl⟩
          rw [hE_G4] at hI
          have hf : gw_fr (mown o q) G G4 := hf.tr (by rw [← hE_G4]; exact gw_fr.up (Or.inl rfl))
          have hM : mdl D G4 o q B 0 (f0 + (k + 1)) l0 g0 fu fn fx fi fl := by rw [← hE_G4]; exact hM.ob (by omega) hM.l236 hM.g204
          obtain ⟨x5, e_x5⟩ : ∃ ww9 : Int32, ww9 = y4 + 1 := ⟨_, rfl⟩
          refine lv_iinc (v := x5) (lv' := [(4, .int x5), (0, .ref o), (1, .int a1), (2, .long b0)]) hx hb d_Mo_feed_83 hl (k := 0) rfl (by rw [e_x5]; rfl) (by decide) rfl (fun ls hl => ?_)
          refine lv_goto (tgt := 46) hx hb d_Mo_feed_86 (by decide) ?_
          exact ih_46 (k + 1) x5 G4 _ _ _ lk (nb_s e_x5 hk) hM hf (z_m hm_46 lk) hI (lv_sub hl [0, 1, 2, 3] rfl)
    exact L_46 _ 0 0 G1 _ _ _ (Nat.zero_le _) rfl hM hf (Nat.lt_succ_self _) hI (lv_sub hl [0, 1, 2, 3] rfl)
  · have h200 : 200 < f0 + n := nb_gt' (n := 200) (nb_aa rfl ha1) c_38 (by decide) (by omega)
    refine lv_iconst (v := (-1)) hx hb d_Mo_feed_41 (by decide) ?_
    exact gw_iret M hr hlo hI d_Mo_feed_42 (⟨Or.inl ⟨h200, rfl, hM⟩, hf⟩)

abbrev rm_Mo_thrown : Room := { frames := 0, cells := 0, slots := 0, locals := 0 }
set_option maxHeartbeats 4000000 in
set_option maxRecDepth 100000 in
theorem c_Mo_thrown (l : Launch) {D : gw_D} {Hs : Heap} {G : gw_G} (o : Nat) (q : Nat → Nat) (B : Nat) (t0 : Int32) (f0 l0 g0 : Nat) (fu fn fx fi : Nat → Int32) (fl : Nat → Int64) (hM : mdl D G o q B t0 f0 l0 g0 fu fn fx fi fl)  : Met l y_Mo_thrown (Cond.code y_Mo_thrown b_Mo_thrown 1 (some .int) :: tb) rm_Mo_thrown (gw_Pc D Hs G [.ref o]) (gw_Qi D Hs (fun r G1 => r = t0 ∧ G1 = G)) 0 0 (gw_A Hs) := by
  refine gw_met (by decide) (Nat.le_of_ble_eq_true rfl) ?_
  intro p e s m args below meth c M hK hr hlo hin hI ls hl
  have hx := M.1
  have hb := M.2.1
  have hl : lv_has ls 1 [(0, .ref o)] := hl
  have hf : gw_fr (mown o q) G G := gw_fr.rf
  refine lv_aload_n hx hb d_Mo_thrown_0 rfl (lv_at hl 0 rfl) ?_
  refine gw_get M hK hI hM.O i_Mo rfl 0 (by decide) f_Mo_94 rfl (Pv := fun v => v = .int t0) (fun x hx => ⟨_, _, hx, rfl, rfl⟩) d_Mo_thrown_1 (fun v hv => ?_)
  subst hv
  exact gw_iret M hr hlo hI d_Mo_thrown_4 (⟨rfl, rfl⟩)

abbrev rm_Mo_wipe : Room := { frames := 0, cells := 0, slots := 0, locals := 0 }
set_option maxHeartbeats 4000000 in
set_option maxRecDepth 100000 in
theorem c_Mo_wipe (l : Launch) {D : gw_D} {Hs : Heap} {G : gw_G} (o : Nat) (q : Nat → Nat) (B : Nat) (t0 : Int32) (f0 l0 g0 : Nat) (fu fn fx fi : Nat → Int32) (fl : Nat → Int64) (hM : mdl D G o q B t0 f0 l0 g0 fu fn fx fi fl)  : Met l y_Mo_wipe (Cond.code y_Mo_wipe b_Mo_wipe 2 (some .int) :: tb) rm_Mo_wipe (gw_Pc D Hs G [.ref o]) (gw_Qi D Hs (fun r G1 => r = nI f0 ∧ mdl D G1 o q B 0 0 l0 g0 fu fn fx fi fl ∧ gw_fr (mown o q) G G1)) 0 0 (gw_A Hs) := by
  refine gw_met (by decide) (Nat.le_of_ble_eq_true rfl) ?_
  intro p e s m args below meth c M hK hr hlo hin hI ls hl
  have hx := M.1
  have hb := M.2.1
  have hl : lv_has ls 2 [(0, .ref o)] := hl
  have hf : gw_fr (mown o q) G G := gw_fr.rf
  refine lv_aload_n hx hb d_Mo_wipe_0 rfl (lv_at hl 0 rfl) ?_
  refine lv_iconst (v := 0) hx hb d_Mo_wipe_1 (by decide) ?_
  refine gw_put M hK hI hM.O i_Mo t_Mo tk_Mo n_Mo rfl 0 (by decide) f_Mo_94 rfl rfl rfl (kx (mo_ob q 0 (nI f0) (nI l0) (nI g0))) (fun x hx => ⟨_, hx, Nat.le_of_ble_eq_true rfl, rfl⟩) d_Mo_wipe_2 (fun H locs hI => ?_)
  obtain ⟨G1, hE_G1⟩ : ∃ z9, gw_up G o (kx (mo_ob q 0 (nI f0) (nI l0) (nI g0))) = z9 := ⟨_, rfl⟩
  rw [hE_G1] at hI
  have hf : gw_fr (mown o q) G G1 := hf.tr (by rw [← hE_G1]; exact gw_fr.up (Or.inl rfl))
  have hM : mdl D G1 o q B 0 f0 l0 g0 fu fn fx fi fl := by rw [← hE_G1]; exact hM.ob hM.f200 hM.l236 hM.g204
  refine lv_aload_n hx hb d_Mo_wipe_5 rfl (lv_at hl 0 rfl) ?_
  refine gw_get M hK hI hM.O i_Mo rfl 17 (by decide) f_Mo_148 rfl (Pv := fun v => v = .int (nI f0)) (fun x hx => ⟨_, _, hx, rfl, rfl⟩) d_Mo_wipe_6 (fun v hv => ?_)
  subst hv
  refine lv_istore_n (lv' := [(1, .int (nI f0)), (0, .ref o)]) hx hb d_Mo_wipe_9 rfl hl (by decide) rfl (fun ls hl => ?_)
  refine lv_aload_n hx hb d_Mo_wipe_10 rfl (lv_at hl 1 rfl) ?_
  refine lv_iconst (v := 0) hx hb d_Mo_wipe_11 (by decide) ?_
  refine gw_put M hK hI hM.O i_Mo t_Mo tk_Mo n_Mo rfl 17 (by decide) f_Mo_148 rfl rfl rfl (kx (mo_ob q 0 (nI 0) (nI l0) (nI g0))) (fun x hx => ⟨_, hx, Nat.le_of_ble_eq_true rfl, rfl⟩) d_Mo_wipe_12 (fun H locs hI => ?_)
  obtain ⟨G2, hE_G2⟩ : ∃ z9, gw_up G1 o (kx (mo_ob q 0 (nI 0) (nI l0) (nI g0))) = z9 := ⟨_, rfl⟩
  rw [hE_G2] at hI
  have hf : gw_fr (mown o q) G G2 := hf.tr (by rw [← hE_G2]; exact gw_fr.up (Or.inl rfl))
  have hM : mdl D G2 o q B 0 0 l0 g0 fu fn fx fi fl := by rw [← hE_G2]; exact hM.ob (Nat.zero_le _) hM.l236 hM.g204
  refine lv_iload_n hx hb d_Mo_wipe_15 rfl (lv_at hl 0 rfl) ?_
  exact gw_iret M hr hlo hI d_Mo_wipe_16 (⟨rfl, hM, hf⟩)

abbrev rm_Mo_size : Room := { frames := 0, cells := 0, slots := 0, locals := 0 }
set_option maxHeartbeats 4000000 in
set_option maxRecDepth 100000 in
theorem c_Mo_size (l : Launch) {D : gw_D} {Hs : Heap} {G : gw_G} (o : Nat) (q : Nat → Nat) (B : Nat) (t0 : Int32) (f0 l0 g0 : Nat) (fu fn fx fi : Nat → Int32) (fl : Nat → Int64) (hM : mdl D G o q B t0 f0 l0 g0 fu fn fx fi fl)  : Met l y_Mo_size (Cond.code y_Mo_size b_Mo_size 1 (some .int) :: tb) rm_Mo_size (gw_Pc D Hs G [.ref o]) (gw_Qi D Hs (fun r G1 => r = nI l0 ∧ mdl D G1 o q B 0 f0 l0 g0 fu fn fx fi fl ∧ gw_fr (mown o q) G G1)) 0 0 (gw_A Hs) := by
  refine gw_met (by decide) (Nat.le_of_ble_eq_true rfl) ?_
  intro p e s m args below meth c M hK hr hlo hin hI ls hl
  have hx := M.1
  have hb := M.2.1
  have hl : lv_has ls 1 [(0, .ref o)] := hl
  have hf : gw_fr (mown o q) G G := gw_fr.rf
  refine lv_aload_n hx hb d_Mo_size_0 rfl (lv_at hl 0 rfl) ?_
  refine lv_iconst (v := 0) hx hb d_Mo_size_1 (by decide) ?_
  refine gw_put M hK hI hM.O i_Mo t_Mo tk_Mo n_Mo rfl 0 (by decide) f_Mo_94 rfl rfl rfl (kx (mo_ob q 0 (nI f0) (nI l0) (nI g0))) (fun x hx => ⟨_, hx, Nat.le_of_ble_eq_true rfl, rfl⟩) d_Mo_size_2 (fun H locs hI => ?_)
  obtain ⟨G1, hE_G1⟩ : ∃ z9, gw_up G o (kx (mo_ob q 0 (nI f0) (nI l0) (nI g0))) = z9 := ⟨_, rfl⟩
  rw [hE_G1] at hI
  have hf : gw_fr (mown o q) G G1 := hf.tr (by rw [← hE_G1]; exact gw_fr.up (Or.inl rfl))
  have hM : mdl D G1 o q B 0 f0 l0 g0 fu fn fx fi fl := by rw [← hE_G1]; exact hM.ob hM.f200 hM.l236 hM.g204
  refine lv_aload_n hx hb d_Mo_size_5 rfl (lv_at hl 0 rfl) ?_
  refine gw_get M hK hI hM.O i_Mo rfl 19 (by decide) f_Mo_151 rfl (Pv := fun v => v = .int (nI l0)) (fun x hx => ⟨_, _, hx, rfl, rfl⟩) d_Mo_size_6 (fun v hv => ?_)
  subst hv
  exact gw_iret M hr hlo hI d_Mo_size_9 (⟨rfl, hM, hf⟩)

abbrev rm_Mo_got : Room := { frames := 0, cells := 0, slots := 0, locals := 0 }
set_option maxHeartbeats 4000000 in
set_option maxRecDepth 100000 in
theorem c_Mo_got (l : Launch) {D : gw_D} {Hs : Heap} {G : gw_G} (o : Nat) (q : Nat → Nat) (B : Nat) (t0 : Int32) (f0 l0 g0 : Nat) (fu fn fx fi : Nat → Int32) (fl : Nat → Int64) (hM : mdl D G o q B t0 f0 l0 g0 fu fn fx fi fl)  : Met l y_Mo_got (Cond.code y_Mo_got b_Mo_got 1 (some .int) :: tb) rm_Mo_got (gw_Pc D Hs G [.ref o]) (gw_Qi D Hs (fun r G1 => r = nI g0 ∧ mdl D G1 o q B 0 f0 l0 g0 fu fn fx fi fl ∧ gw_fr (mown o q) G G1)) 0 0 (gw_A Hs) := by
  refine gw_met (by decide) (Nat.le_of_ble_eq_true rfl) ?_
  intro p e s m args below meth c M hK hr hlo hin hI ls hl
  have hx := M.1
  have hb := M.2.1
  have hl : lv_has ls 1 [(0, .ref o)] := hl
  have hf : gw_fr (mown o q) G G := gw_fr.rf
  refine lv_aload_n hx hb d_Mo_got_0 rfl (lv_at hl 0 rfl) ?_
  refine lv_iconst (v := 0) hx hb d_Mo_got_1 (by decide) ?_
  refine gw_put M hK hI hM.O i_Mo t_Mo tk_Mo n_Mo rfl 0 (by decide) f_Mo_94 rfl rfl rfl (kx (mo_ob q 0 (nI f0) (nI l0) (nI g0))) (fun x hx => ⟨_, hx, Nat.le_of_ble_eq_true rfl, rfl⟩) d_Mo_got_2 (fun H locs hI => ?_)
  obtain ⟨G1, hE_G1⟩ : ∃ z9, gw_up G o (kx (mo_ob q 0 (nI f0) (nI l0) (nI g0))) = z9 := ⟨_, rfl⟩
  rw [hE_G1] at hI
  have hf : gw_fr (mown o q) G G1 := hf.tr (by rw [← hE_G1]; exact gw_fr.up (Or.inl rfl))
  have hM : mdl D G1 o q B 0 f0 l0 g0 fu fn fx fi fl := by rw [← hE_G1]; exact hM.ob hM.f200 hM.l236 hM.g204
  refine lv_aload_n hx hb d_Mo_got_5 rfl (lv_at hl 0 rfl) ?_
  refine gw_get M hK hI hM.O i_Mo rfl 23 (by decide) f_Mo_168 rfl (Pv := fun v => v = .int (nI g0)) (fun x hx => ⟨_, _, hx, rfl, rfl⟩) d_Mo_got_6 (fun v hv => ?_)
  subst hv
  exact gw_iret M hr hlo hI d_Mo_got_9 (⟨rfl, hM, hf⟩)

abbrev rm_Mo_put : Room := { frames := 0, cells := 0, slots := 0, locals := 0 }
set_option maxHeartbeats 4000000 in
set_option maxRecDepth 100000 in
theorem c_Mo_put (l : Launch) {D : gw_D} {Hs : Heap} {G : gw_G} (o : Nat) (q : Nat → Nat) (B : Nat) (t0 : Int32) (f0 l0 g0 : Nat) (fu fn fx fi : Nat → Int32) (fl : Nat → Int64) (hM : mdl D G o q B t0 f0 l0 g0 fu fn fx fi fl) (a1 : Int32) (h_a1 : by8 a1) (hl0 : l0 < 236) : Met l y_Mo_put (Cond.code y_Mo_put b_Mo_put 2 none :: tb) rm_Mo_put (gw_Pc D Hs G [.ref o, .int a1]) (gw_Qv D Hs (fun G1 => mdl D G1 o q B t0 f0 (l0 + 1) g0 fu fn fx fi fl ∧ gw_fr (mown o q) G G1)) 0 0 (gw_A Hs) := by
  refine gw_met (by decide) (Nat.le_of_ble_eq_true rfl) ?_
  intro p e s m args below meth c M hK hr hlo hin hI ls hl
  have hx := M.1
  have hb := M.2.1
  have hl : lv_has ls 2 [(0, .ref o), (1, .int a1)] := hl
  have hf : gw_fr (mown o q) G G := gw_fr.rf
  refine lv_aload_n hx hb d_Mo_put_0 rfl (lv_at hl 0 rfl) ?_
  refine gw_get M hK hI hM.O i_Mo rfl 18 (by decide) f_Mo_60 rfl (Pv := fun v => v = .ref (q 18)) (fun x hx => ⟨_, _, hx, rfl, rfl⟩) d_Mo_put_1 (fun v hv => ?_)
  subst hv
  refine lv_aload_n hx hb d_Mo_put_4 rfl (lv_at hl 0 rfl) ?_
  refine gw_get M hK hI hM.O i_Mo rfl 19 (by decide) f_Mo_151 rfl (Pv := fun v => v = .int (nI l0)) (fun x hx => ⟨_, _, hx, rfl, rfl⟩) d_Mo_put_5 (fun v hv => ?_)
  subst hv
  refine lv_iload_n hx hb d_Mo_put_8 rfl (lv_at hl 1 rfl) ?_
  refine gw_iast M hK hI hM.k18 (vp_in_nI (by omega) (by decide)) h_a1 d_Mo_put_9 (fun H locs hI => ?_)
  refine lv_aload_n hx hb d_Mo_put_10 rfl (lv_at hl 0 rfl) ?_
  refine lv_dup hx hb d_Mo_put_11 rfl ?_
  refine gw_get M hK hI hM.O i_Mo rfl 19 (by decide) f_Mo_151 rfl (Pv := fun v => v = .int (nI l0)) (fun x hx => ⟨_, _, hx, rfl, rfl⟩) d_Mo_put_12 (fun v hv => ?_)
  subst hv
  refine lv_iconst (v := 1) hx hb d_Mo_put_15 (by decide) ?_
  refine lv_iadd hx hb d_Mo_put_16 ?_
  refine lv_topi (fun x1 e_x1 => ?_)
  have hv9 : x1 = nI (l0 + 1) := (by rw [e_x1]; exact nI_1 _)
  subst hv9
  refine gw_put M hK hI hM.O i_Mo t_Mo tk_Mo n_Mo rfl 19 (by decide) f_Mo_151 rfl rfl rfl (kx (mo_ob q t0 (nI f0) (nI (l0 + 1)) (nI g0))) (fun x hx => ⟨_, hx, Nat.le_of_ble_eq_true rfl, rfl⟩) d_Mo_put_17 (fun H locs hI => ?_)
  obtain ⟨G2, hE_G2⟩ : ∃ z9, gw_up G o (kx (mo_ob q t0 (nI f0) (nI (l0 + 1)) (nI g0))) = z9 := ⟨_, rfl⟩
  rw [hE_G2] at hI
  have hf : gw_fr (mown o q) G G2 := hf.tr (by rw [← hE_G2]; exact gw_fr.up (Or.inl rfl))
  have hM : mdl D G2 o q B t0 f0 (l0 + 1) g0 fu fn fx fi fl := by rw [← hE_G2]; exact hM.ob hM.f200 hl0 hM.g204
  exact gw_vret M hr hlo hI d_Mo_put_20 (⟨hM, hf⟩)

abbrev rm_Mo_eight : Room := { frames := 0, cells := 0, slots := 0, locals := 0 }
set_option maxHeartbeats 4000000 in
set_option maxRecDepth 100000 in
theorem c_Mo_eight (l : Launch) {D : gw_D} {Hs : Heap} {G : gw_G} (b N : Nat) (P : Int32 → Prop) (hB : G b = some (kA D 0 N P)) (hN : N < 2 ^ 31) (a1 : Int32) (m9 : Nat) (ha1 : a1 = nI m9) (hm9 : m9 ≤ N) (i0 : Int32) : Met l y_Mo_eight (Cond.code y_Mo_eight b_Mo_eight 8 (some .long) :: tb) rm_Mo_eight (gw_Pc D Hs G [.ref b, .int a1, .int i0]) (gw_Ql D Hs (fun _ G1 => G1 = G)) 0 0 (gw_A Hs) := by
  refine gw_met (by decide) (Nat.le_of_ble_eq_true rfl) ?_
  intro p e s m args below meth c M hK hr hlo hin hI ls hl
  have hx := M.1
  have hb := M.2.1
  have hl : lv_has ls 8 [(0, .ref b), (1, .int a1), (2, .int i0)] := hl
  refine lv_lconst (v := 0) hx hb d_Mo_eight_0 (by decide) ?_
  refine lv_lstore_n (lv' := [(3, .long 0), (0, .ref b), (1, .int a1), (2, .int i0)]) hx hb d_Mo_eight_1 rfl hl (by decide) rfl (fun ls hl => ?_)
  refine lv_iconst (v := 0) hx hb d_Mo_eight_2 (by decide) ?_
  refine lv_istore (lv' := [(5, .int 0), (3, .long 0), (0, .ref b), (1, .int a1), (2, .int i0)]) hx hb d_Mo_eight_3 hl (by decide) rfl (fun ls hl => ?_)
  have L_5 : ∀ (n9 : Nat) (k : Nat) (v3 : Int64) (y5 : Int32) (H : Heap) (locs : List Loc) (ls : Array Slot), k ≤ 8 → y5 = nI k → 8 - k < n9 → gw_I D Hs G s.heap H locs → lv_has ls 8 [(5, .int y5), (3, .long v3), (0, .ref b), (1, .int a1), (2, .int i0)] → W p l e rm_Mo_eight s m args below meth c H locs 0 0 (MQ below (gw_Ql D Hs (fun _ G1 => G1 = G)) args s 0 0 (gw_A Hs)) (F0 m 5 ls []) := by
    intro n9
    induction n9 with
    | zero =>
      intro k v3 y5 H locs ls bk hk hm hI hl
      exact absurd hm (Nat.not_lt_zero _)
    | succ n9 ih_5 =>
      intro k v3 y5 H locs ls bk hk hm_5 hI hl
      refine lv_iload hx hb d_Mo_eight_5 (lv_at hl 0 rfl) ?_
      refine lv_bipush (v := 8) hx hb d_Mo_eight_7 (by decide) ?_
      refine lv_icmp_ge (tgt := 60) hx hb d_Mo_eight_9 (by decide) (fun c_9 => ?_) (fun c_9 => ?_)
      · refine lv_lload_n hx hb d_Mo_eight_60 rfl (lv_at hl 1 rfl) ?_
        exact gw_lret M hr hlo hI d_Mo_eight_61 rfl
      · have lk : k < 8 := nb_lt (n := 8) hk c_9 (by decide) (z_31 bk)
        refine lv_iload_n hx hb d_Mo_eight_12 rfl (lv_at hl 4 rfl) ?_
        refine lv_i2l hx hb d_Mo_eight_13 rfl ?_
        refine lv_iload hx hb d_Mo_eight_14 (lv_at hl 0 rfl) ?_
        refine lv_i2l hx hb d_Mo_eight_16 rfl ?_
        refine lv_ladd hx hb d_Mo_eight_17 ?_
        refine lv_topl (fun x1 e_x1 => ?_)
        refine lv_lstore (lv' := [(6, .long x1), (5, .int y5), (3, .long v3), (0, .ref b), (1, .int a1), (2, .int i0)]) hx hb d_Mo_eight_18 hl (by decide) rfl (fun ls hl => ?_)
        refine lv_lload hx hb d_Mo_eight_20 (lv_at hl 0 rfl) ?_
        refine lv_lconst (v := 0) hx hb d_Mo_eight_22 (by decide) ?_
        refine W.lcmp hx hb d_Mo_eight_23 ?_
        refine lv_if_lt (tgt := 52) hx hb d_Mo_eight_24 (by decide) (fun c_24 => ?_) (fun c_24 => ?_)
        · refine lv_lload_n hx hb d_Mo_eight_52 rfl (lv_at hl 2 rfl) ?_
          refine lv_lstore_n (lv' := [(3, .long v3), (6, .long x1), (5, .int y5), (0, .ref b), (1, .int a1), (2, .int i0)]) hx hb d_Mo_eight_53 rfl hl (by decide) rfl (fun ls hl => ?_)
          obtain ⟨x2, e_x2⟩ : ∃ ww9 : Int32, ww9 = y5 + 1 := ⟨_, rfl⟩
          refine lv_iinc (v := x2) (lv' := [(5, .int x2), (3, .long v3), (6, .long x1), (0, .ref b), (1, .int a1), (2, .int i0)]) hx hb d_Mo_eight_54 hl (k := 2) rfl (by rw [e_x2]; rfl) (by decide) rfl (fun ls hl => ?_)
          refine lv_goto (tgt := 5) hx hb d_Mo_eight_57 (by decide) ?_
          exact ih_5 (k + 1) v3 x2 _ _ _ lk (nb_s e_x2 hk) (z_m hm_5 lk) hI (lv_sub hl [0, 1, 3, 4, 5] rfl)
        · refine lv_lload hx hb d_Mo_eight_27 (lv_at hl 0 rfl) ?_
          refine lv_iload_n hx hb d_Mo_eight_29 rfl (lv_at hl 4 rfl) ?_
          refine lv_i2l hx hb d_Mo_eight_30 rfl ?_
          refine W.lcmp hx hb d_Mo_eight_31 ?_
          refine lv_if_ge (tgt := 52) hx hb d_Mo_eight_32 (by decide) (fun c_32 => ?_) (fun c_32 => ?_)
          · refine lv_lload_n hx hb d_Mo_eight_52 rfl (lv_at hl 2 rfl) ?_
            refine lv_lstore_n (lv' := [(3, .long v3), (6, .long x1), (5, .int y5), (0, .ref b), (1, .int a1), (2, .int i0)]) hx hb d_Mo_eight_53 rfl hl (by decide) rfl (fun ls hl => ?_)
            obtain ⟨x3, e_x3⟩ : ∃ ww9 : Int32, ww9 = y5 + 1 := ⟨_, rfl⟩
            refine lv_iinc (v := x3) (lv' := [(5, .int x3), (3, .long v3), (6, .long x1), (0, .ref b), (1, .int a1), (2, .int i0)]) hx hb d_Mo_eight_54 hl (k := 2) rfl (by rw [e_x3]; rfl) (by decide) rfl (fun ls hl => ?_)
            refine lv_goto (tgt := 5) hx hb d_Mo_eight_57 (by decide) ?_
            exact ih_5 (k + 1) v3 x3 _ _ _ lk (nb_s e_x3 hk) (z_m hm_5 lk) hI (lv_sub hl [0, 1, 3, 4, 5] rfl)
          · refine lv_lload_n hx hb d_Mo_eight_35 rfl (lv_at hl 2 rfl) ?_
            refine lv_aload_n hx hb d_Mo_eight_36 rfl (lv_at hl 3 rfl) ?_
            refine lv_lload hx hb d_Mo_eight_37 (lv_at hl 0 rfl) ?_
            refine lv_l2i hx hb d_Mo_eight_39 rfl ?_
            refine gw_iald M hK hI hB (l2i_in hN c_24 (by rw [← ha1]; exact c_32) hm9) d_Mo_eight_40 (fun x4 h_x4 => ?_)
            refine lv_i2l hx hb d_Mo_eight_41 rfl ?_
            refine lv_bipush (v := 8) hx hb d_Mo_eight_42 (by decide) ?_
            refine lv_iload hx hb d_Mo_eight_44 (lv_at hl 1 rfl) ?_
            refine lv_imul hx hb d_Mo_eight_46 ?_
            refine lv_lshl hx hb d_Mo_eight_47 rfl ?_
            refine lv_lor hx hb d_Mo_eight_48 ?_
            refine lv_goto (tgt := 53) hx hb d_Mo_eight_49 (by decide) ?_
            refine lv_topl (fun x5 e_x5 => ?_)
            refine lv_lstore_n (lv' := [(3, .long x5), (6, .long x1), (5, .int y5), (0, .ref b), (1, .int a1), (2, .int i0)]) hx hb d_Mo_eight_53 rfl hl (by decide) rfl (fun ls hl => ?_)
            obtain ⟨x6, e_x6⟩ : ∃ ww9 : Int32, ww9 = y5 + 1 := ⟨_, rfl⟩
            refine lv_iinc (v := x6) (lv' := [(5, .int x6), (3, .long x5), (6, .long x1), (0, .ref b), (1, .int a1), (2, .int i0)]) hx hb d_Mo_eight_54 hl (k := 2) rfl (by rw [e_x6]; rfl) (by decide) rfl (fun ls hl => ?_)
            refine lv_goto (tgt := 5) hx hb d_Mo_eight_57 (by decide) ?_
            exact ih_5 (k + 1) x5 x6 _ _ _ lk (nb_s e_x6 hk) (z_m hm_5 lk) hI (lv_sub hl [0, 1, 3, 4, 5] rfl)
  exact L_5 _ 0 0 0 _ _ _ (Nat.zero_le _) rfl (Nat.lt_succ_self _) hI (lv_sub hl [0, 1, 2, 3, 4] rfl)

abbrev rm_Mo_packet : Room := { frames := 1, cells := 0, slots := 0, locals := 27 }
set_option maxHeartbeats 4000000 in
set_option maxRecDepth 100000 in
theorem c_Mo_packet (l : Launch) {D : gw_D} {Hs : Heap} {G : gw_G} (o : Nat) (q : Nat → Nat) (B : Nat) (t0 : Int32) (f0 l0 g0 : Nat) (fu fn fx fi : Nat → Int32) (fl : Nat → Int64) (hM : mdl D G o q B t0 f0 l0 g0 fu fn fx fi fl) (i0 : Int32) : Met l y_Mo_packet (Cond.code y_Mo_packet b_Mo_packet 2 (some .long) :: tb) rm_Mo_packet (gw_Pc D Hs G [.ref o, .int i0]) (gw_Ql D Hs (fun _ G1 => mdl D G1 o q B 0 f0 l0 g0 fu fn fx fi fl ∧ gw_fr (mown o q) G G1)) 0 0 (gw_A Hs) := by
  refine gw_met (by decide) (Nat.le_of_ble_eq_true rfl) ?_
  intro p e s m args below meth c M hK hr hlo hin hI ls hl
  have hx := M.1
  have hb := M.2.1
  have hl : lv_has ls 2 [(0, .ref o), (1, .int i0)] := hl
  have hf : gw_fr (mown o q) G G := gw_fr.rf
  refine lv_aload_n hx hb d_Mo_packet_0 rfl (lv_at hl 0 rfl) ?_
  refine lv_iconst (v := 0) hx hb d_Mo_packet_1 (by decide) ?_
  refine gw_put M hK hI hM.O i_Mo t_Mo tk_Mo n_Mo rfl 0 (by decide) f_Mo_94 rfl rfl rfl (kx (mo_ob q 0 (nI f0) (nI l0) (nI g0))) (fun x hx => ⟨_, hx, Nat.le_of_ble_eq_true rfl, rfl⟩) d_Mo_packet_2 (fun H locs hI => ?_)
  obtain ⟨G1, hE_G1⟩ : ∃ z9, gw_up G o (kx (mo_ob q 0 (nI f0) (nI l0) (nI g0))) = z9 := ⟨_, rfl⟩
  rw [hE_G1] at hI
  have hf : gw_fr (mown o q) G G1 := hf.tr (by rw [← hE_G1]; exact gw_fr.up (Or.inl rfl))
  have hM : mdl D G1 o q B 0 f0 l0 g0 fu fn fx fi fl := by rw [← hE_G1]; exact hM.ob hM.f200 hM.l236 hM.g204
  refine lv_aload_n hx hb d_Mo_packet_5 rfl (lv_at hl 0 rfl) ?_
  refine gw_get M hK hI hM.O i_Mo rfl 18 (by decide) f_Mo_60 rfl (Pv := fun v => v = .ref (q 18)) (fun x hx => ⟨_, _, hx, rfl, rfl⟩) d_Mo_packet_6 (fun v hv => ?_)
  subst hv
  refine lv_aload_n hx hb d_Mo_packet_9 rfl (lv_at hl 0 rfl) ?_
  refine gw_get M hK hI hM.O i_Mo rfl 19 (by decide) f_Mo_151 rfl (Pv := fun v => v = .int (nI l0)) (fun x hx => ⟨_, _, hx, rfl, rfl⟩) d_Mo_packet_10 (fun v hv => ?_)
  subst hv
  refine lv_iload_n hx hb d_Mo_packet_13 rfl (lv_at hl 1 rfl) ?_
  refine gw_Sl (As := [.ref (q 18), .int (nI l0), .int i0]) (rest := []) M hK hI (c_Mo_eight l (q 18) 240 by8 hM.k18 (by decide) (nI l0) _ rfl (Nat.le_trans hM.l236 (by decide)) i0) k_Mo_eight m_Mo_164 rfl hl.1 rfl (Nat.le_of_ble_eq_true rfl) ⟨rfl, rfl, ⟨Nat.le_of_ble_eq_true rfl, Nat.le_of_ble_eq_true rfl⟩, ⟨Nat.le_of_ble_eq_true rfl, Nat.le_of_ble_eq_true rfl⟩⟩ d_Mo_packet_14 (fun x2 G9 H locs hw hI => ?_)
  rw [hw] at hI
  exact gw_lret M hr hlo hI d_Mo_packet_17 (⟨hM, hf⟩)

abbrev rm_Mo_data : Room := { frames := 1, cells := 0, slots := 0, locals := 27 }
set_option maxHeartbeats 4000000 in
set_option maxRecDepth 100000 in
theorem c_Mo_data (l : Launch) {D : gw_D} {Hs : Heap} {G : gw_G} (o : Nat) (q : Nat → Nat) (B : Nat) (t0 : Int32) (f0 l0 g0 : Nat) (fu fn fx fi : Nat → Int32) (fl : Nat → Int64) (hM : mdl D G o q B t0 f0 l0 g0 fu fn fx fi fl) (i0 : Int32) : Met l y_Mo_data (Cond.code y_Mo_data b_Mo_data 2 (some .long) :: tb) rm_Mo_data (gw_Pc D Hs G [.ref o, .int i0]) (gw_Ql D Hs (fun _ G1 => mdl D G1 o q B 0 f0 l0 g0 fu fn fx fi fl ∧ gw_fr (mown o q) G G1)) 0 0 (gw_A Hs) := by
  refine gw_met (by decide) (Nat.le_of_ble_eq_true rfl) ?_
  intro p e s m args below meth c M hK hr hlo hin hI ls hl
  have hx := M.1
  have hb := M.2.1
  have hl : lv_has ls 2 [(0, .ref o), (1, .int i0)] := hl
  have hf : gw_fr (mown o q) G G := gw_fr.rf
  refine lv_aload_n hx hb d_Mo_data_0 rfl (lv_at hl 0 rfl) ?_
  refine lv_iconst (v := 0) hx hb d_Mo_data_1 (by decide) ?_
  refine gw_put M hK hI hM.O i_Mo t_Mo tk_Mo n_Mo rfl 0 (by decide) f_Mo_94 rfl rfl rfl (kx (mo_ob q 0 (nI f0) (nI l0) (nI g0))) (fun x hx => ⟨_, hx, Nat.le_of_ble_eq_true rfl, rfl⟩) d_Mo_data_2 (fun H locs hI => ?_)
  obtain ⟨G1, hE_G1⟩ : ∃ z9, gw_up G o (kx (mo_ob q 0 (nI f0) (nI l0) (nI g0))) = z9 := ⟨_, rfl⟩
  rw [hE_G1] at hI
  have hf : gw_fr (mown o q) G G1 := hf.tr (by rw [← hE_G1]; exact gw_fr.up (Or.inl rfl))
  have hM : mdl D G1 o q B 0 f0 l0 g0 fu fn fx fi fl := by rw [← hE_G1]; exact hM.ob hM.f200 hM.l236 hM.g204
  refine lv_aload_n hx hb d_Mo_data_5 rfl (lv_at hl 0 rfl) ?_
  refine gw_get M hK hI hM.O i_Mo rfl 22 (by decide) f_Mo_69 rfl (Pv := fun v => v = .ref (q 22)) (fun x hx => ⟨_, _, hx, rfl, rfl⟩) d_Mo_data_6 (fun v hv => ?_)
  subst hv
  refine lv_aload_n hx hb d_Mo_data_9 rfl (lv_at hl 0 rfl) ?_
  refine gw_get M hK hI hM.O i_Mo rfl 23 (by decide) f_Mo_168 rfl (Pv := fun v => v = .int (nI g0)) (fun x hx => ⟨_, _, hx, rfl, rfl⟩) d_Mo_data_10 (fun v hv => ?_)
  subst hv
  refine lv_iload_n hx hb d_Mo_data_13 rfl (lv_at hl 1 rfl) ?_
  refine gw_Sl (As := [.ref (q 22), .int (nI g0), .int i0]) (rest := []) M hK hI (c_Mo_eight l (q 22) 240 tT hM.k22 (by decide) (nI g0) _ rfl (Nat.le_trans hM.g204 (by decide)) i0) k_Mo_eight m_Mo_164 rfl hl.1 rfl (Nat.le_of_ble_eq_true rfl) ⟨rfl, rfl, ⟨Nat.le_of_ble_eq_true rfl, Nat.le_of_ble_eq_true rfl⟩, ⟨Nat.le_of_ble_eq_true rfl, Nat.le_of_ble_eq_true rfl⟩⟩ d_Mo_data_14 (fun x2 G9 H locs hw hI => ?_)
  rw [hw] at hI
  exact gw_lret M hr hlo hI d_Mo_data_17 (⟨hM, hf⟩)

theorem in_lt2 {x : Int32} {n N : Nat} (h0 : ¬ x < 0) (h1 : x < nI n) (hn : n ≤ N) (hN : N < 2 ^ 31 := by decide) : vp_in x N := by
  obtain ⟨k, hk, rfl⟩ := nI_of h0
  have h2 := nb_lt' (n := n) (x := nI k) rfl h1 (by omega) hk
  exact vp_in_nI (by omega) hN
theorem in_le {x : Int32} {n : Nat} (h0 : ¬ x < 0) (h1 : x ≤ nI n) (hn : n < 2 ^ 31) : ∃ k, k ≤ n ∧ x = nI k := by
  obtain ⟨k, hk, rfl⟩ := nI_of h0
  exact ⟨k, nb_le' (n := n) (x := nI k) rfl h1 hn hk, rfl⟩

abbrev rm_Mo_spoil : Room := { frames := 0, cells := 0, slots := 0, locals := 0 }
set_option maxHeartbeats 4000000 in
set_option maxRecDepth 100000 in
theorem c_Mo_spoil (l : Launch) {D : gw_D} {Hs : Heap} {G : gw_G} (o : Nat) (q : Nat → Nat) (B : Nat) (t0 : Int32) (f0 l0 g0 : Nat) (fu fn fx fi : Nat → Int32) (fl : Nat → Int64) (hM : mdl D G o q B t0 f0 l0 g0 fu fn fx fi fl) (a1 a2 : Int32) : Met l y_Mo_spoil (Cond.code y_Mo_spoil b_Mo_spoil 4 (some .int) :: tb) rm_Mo_spoil (gw_Pc D Hs G [.ref o, .int a1, .int a2]) (gw_Qi D Hs (fun r G1 => (((a1 < 0 ∨ ¬ a1 < nI l0) ∧ mdl D G1 o q B 1 f0 l0 g0 fu fn fx fi fl) ∨ (¬ (a1 < 0 ∨ ¬ a1 < nI l0) ∧ ¬ okB a2 ∧ mdl D G1 o q B 2 f0 l0 g0 fu fn fx fi fl) ∨ (¬ (a1 < 0 ∨ ¬ a1 < nI l0) ∧ okB a2 ∧ mdl D G1 o q B 0 f0 l0 g0 fu fn fx fi fl)) ∧ gw_fr (mown o q) G G1)) 0 0 (gw_A Hs) := by
  refine gw_met (by decide) (Nat.le_of_ble_eq_true rfl) ?_
  intro p e s m args below meth c M hK hr hlo hin hI ls hl
  have hx := M.1
  have hb := M.2.1
  have hl : lv_has ls 4 [(0, .ref o), (1, .int a1), (2, .int a2)] := hl
  have hf : gw_fr (mown o q) G G := gw_fr.rf
  refine lv_aload_n hx hb d_Mo_spoil_0 rfl (lv_at hl 0 rfl) ?_
  refine lv_iload_n hx hb d_Mo_spoil_1 rfl (lv_at hl 1 rfl) ?_
  refine lv_if_lt (tgt := 13) hx hb d_Mo_spoil_2 (by decide) (fun c_2 => ?_) (fun c_2 => ?_)
  · have hr2 := c_2
    refine lv_iconst (v := 1) hx hb d_Mo_spoil_13 (by decide) ?_
    refine lv_goto (tgt := 33) hx hb d_Mo_spoil_14 (by decide) ?_
    refine gw_put M hK hI hM.O i_Mo t_Mo tk_Mo n_Mo rfl 0 (by decide) f_Mo_94 rfl rfl rfl (kx (mo_ob q 1 (nI f0) (nI l0) (nI g0))) (fun x hx => ⟨_, hx, Nat.le_of_ble_eq_true rfl, rfl⟩) d_Mo_spoil_33 (fun H locs hI => ?_)
    obtain ⟨G1, hE_G1⟩ : ∃ z9, gw_up G o (kx (mo_ob q 1 (nI f0) (nI l0) (nI g0))) = z9 := ⟨_, rfl⟩
    rw [hE_G1] at hI
    have hf : gw_fr (mown o q) G G1 := hf.tr (by rw [← hE_G1]; exact gw_fr.up (Or.inl rfl))
    have hM : mdl D G1 o q B 1 f0 l0 g0 fu fn fx fi fl := by rw [← hE_G1]; exact hM.ob hM.f200 hM.l236 hM.g204
    refine lv_aload_n hx hb d_Mo_spoil_36 rfl (lv_at hl 0 rfl) ?_
    refine gw_get M hK hI hM.O i_Mo rfl 0 (by decide) f_Mo_94 rfl (Pv := fun v => v = .int 1) (fun x hx => ⟨_, _, hx, rfl, rfl⟩) d_Mo_spoil_37 (fun v hv => ?_)
    subst hv
    refine lv_if_le (tgt := 45) hx hb d_Mo_spoil_40 (by decide) (fun q9 => absurd q9 (by decide)) (fun c_40 => ?_)
    refine lv_iconst (v := 0) hx hb d_Mo_spoil_43 (by decide) ?_
    exact gw_iret M hr hlo hI d_Mo_spoil_44 (⟨Or.inl ⟨Or.inl c_2, hM⟩, hf⟩)
  · refine lv_iload_n hx hb d_Mo_spoil_5 rfl (lv_at hl 1 rfl) ?_
    refine lv_aload_n hx hb d_Mo_spoil_6 rfl (lv_at hl 0 rfl) ?_
    refine gw_get M hK hI hM.O i_Mo rfl 19 (by decide) f_Mo_151 rfl (Pv := fun v => v = .int (nI l0)) (fun x hx => ⟨_, _, hx, rfl, rfl⟩) d_Mo_spoil_7 (fun v hv => ?_)
    subst hv
    refine lv_icmp_lt (tgt := 17) hx hb d_Mo_spoil_10 (by decide) (fun c_10 => ?_) (fun c_10 => ?_)
    · have hgd : ¬ (a1 < 0 ∨ ¬ a1 < nI l0) := fun q9 => q9.elim c_2 (fun h9 => h9 c_10)
      refine lv_iload_n hx hb d_Mo_spoil_17 rfl (lv_at hl 2 rfl) ?_
      refine lv_if_lt (tgt := 28) hx hb d_Mo_spoil_18 (by decide) (fun c_18 => ?_) (fun c_18 => ?_)
      · have hr18 := c_18
        refine lv_iconst (v := 2) hx hb d_Mo_spoil_28 (by decide) ?_
        refine lv_goto (tgt := 33) hx hb d_Mo_spoil_29 (by decide) ?_
        refine gw_put M hK hI hM.O i_Mo t_Mo tk_Mo n_Mo rfl 0 (by decide) f_Mo_94 rfl rfl rfl (kx (mo_ob q 2 (nI f0) (nI l0) (nI g0))) (fun x hx => ⟨_, hx, Nat.le_of_ble_eq_true rfl, rfl⟩) d_Mo_spoil_33 (fun H locs hI => ?_)
        obtain ⟨G2, hE_G2⟩ : ∃ z9, gw_up G o (kx (mo_ob q 2 (nI f0) (nI l0) (nI g0))) = z9 := ⟨_, rfl⟩
        rw [hE_G2] at hI
        have hf : gw_fr (mown o q) G G2 := hf.tr (by rw [← hE_G2]; exact gw_fr.up (Or.inl rfl))
        have hM : mdl D G2 o q B 2 f0 l0 g0 fu fn fx fi fl := by rw [← hE_G2]; exact hM.ob hM.f200 hM.l236 hM.g204
        refine lv_aload_n hx hb d_Mo_spoil_36 rfl (lv_at hl 0 rfl) ?_
        refine gw_get M hK hI hM.O i_Mo rfl 0 (by decide) f_Mo_94 rfl (Pv := fun v => v = .int 2) (fun x hx => ⟨_, _, hx, rfl, rfl⟩) d_Mo_spoil_37 (fun v hv => ?_)
        subst hv
        refine lv_if_le (tgt := 45) hx hb d_Mo_spoil_40 (by decide) (fun q9 => absurd q9 (by decide)) (fun c_40 => ?_)
        refine lv_iconst (v := 0) hx hb d_Mo_spoil_43 (by decide) ?_
        exact gw_iret M hr hlo hI d_Mo_spoil_44 (⟨Or.inr (Or.inl ⟨hgd, (fun h9 => h9.1 c_18), hM⟩), hf⟩)
      · refine lv_iload_n hx hb d_Mo_spoil_21 rfl (lv_at hl 2 rfl) ?_
        refine lv_sipush (v := 255) hx hb d_Mo_spoil_22 (by decide) ?_
        refine lv_icmp_le (tgt := 32) hx hb d_Mo_spoil_25 (by decide) (fun c_25 => ?_) (fun c_25 => ?_)
        · have h_a2 : by8 a2 := by8_le c_18 c_25
          refine lv_iconst (v := 0) hx hb d_Mo_spoil_32 (by decide) ?_
          refine gw_put M hK hI hM.O i_Mo t_Mo tk_Mo n_Mo rfl 0 (by decide) f_Mo_94 rfl rfl rfl (kx (mo_ob q 0 (nI f0) (nI l0) (nI g0))) (fun x hx => ⟨_, hx, Nat.le_of_ble_eq_true rfl, rfl⟩) d_Mo_spoil_33 (fun H locs hI => ?_)
          obtain ⟨G3, hE_G3⟩ : ∃ z9, gw_up G o (kx (mo_ob q 0 (nI f0) (nI l0) (nI g0))) = z9 := ⟨_, rfl⟩
          rw [hE_G3] at hI
          have hf : gw_fr (mown o q) G G3 := hf.tr (by rw [← hE_G3]; exact gw_fr.up (Or.inl rfl))
          have hM : mdl D G3 o q B 0 f0 l0 g0 fu fn fx fi fl := by rw [← hE_G3]; exact hM.ob hM.f200 hM.l236 hM.g204
          refine lv_aload_n hx hb d_Mo_spoil_36 rfl (lv_at hl 0 rfl) ?_
          refine gw_get M hK hI hM.O i_Mo rfl 0 (by decide) f_Mo_94 rfl (Pv := fun v => v = .int 0) (fun x hx => ⟨_, _, hx, rfl, rfl⟩) d_Mo_spoil_37 (fun v hv => ?_)
          subst hv
          refine lv_if_le (tgt := 45) hx hb d_Mo_spoil_40 (by decide) (fun c_40 => ?_) (fun q9 => absurd (by decide) q9)
          refine lv_aload_n hx hb d_Mo_spoil_45 rfl (lv_at hl 0 rfl) ?_
          refine gw_get M hK hI hM.O i_Mo rfl 18 (by decide) f_Mo_60 rfl (Pv := fun v => v = .ref (q 18)) (fun x hx => ⟨_, _, hx, rfl, rfl⟩) d_Mo_spoil_46 (fun v hv => ?_)
          subst hv
          refine lv_iload_n hx hb d_Mo_spoil_49 rfl (lv_at hl 1 rfl) ?_
          refine gw_iald M hK hI hM.k18 (in_lt2 c_2 c_10 (Nat.le_trans hM.l236 (by decide))) d_Mo_spoil_50 (fun x4 h_x4 => ?_)
          refine lv_istore_n (lv' := [(3, .int x4), (0, .ref o), (1, .int a1), (2, .int a2)]) hx hb d_Mo_spoil_51 rfl hl (by decide) rfl (fun ls hl => ?_)
          refine lv_aload_n hx hb d_Mo_spoil_52 rfl (lv_at hl 1 rfl) ?_
          refine gw_get M hK hI hM.O i_Mo rfl 18 (by decide) f_Mo_60 rfl (Pv := fun v => v = .ref (q 18)) (fun x hx => ⟨_, _, hx, rfl, rfl⟩) d_Mo_spoil_53 (fun v hv => ?_)
          subst hv
          refine lv_iload_n hx hb d_Mo_spoil_56 rfl (lv_at hl 2 rfl) ?_
          refine lv_iload_n hx hb d_Mo_spoil_57 rfl (lv_at hl 3 rfl) ?_
          refine gw_iast M hK hI hM.k18 (in_lt2 c_2 c_10 (Nat.le_trans hM.l236 (by decide))) h_a2 d_Mo_spoil_58 (fun H locs hI => ?_)
          refine lv_iload_n hx hb d_Mo_spoil_59 rfl (lv_at hl 0 rfl) ?_
          exact gw_iret M hr hlo hI d_Mo_spoil_60 (⟨Or.inr (Or.inr ⟨hgd, ⟨c_18, Int32.not_lt.mpr c_25⟩, hM⟩), hf⟩)
        · have hr25 := c_25
          refine lv_iconst (v := 2) hx hb d_Mo_spoil_28 (by decide) ?_
          refine lv_goto (tgt := 33) hx hb d_Mo_spoil_29 (by decide) ?_
          refine gw_put M hK hI hM.O i_Mo t_Mo tk_Mo n_Mo rfl 0 (by decide) f_Mo_94 rfl rfl rfl (kx (mo_ob q 2 (nI f0) (nI l0) (nI g0))) (fun x hx => ⟨_, hx, Nat.le_of_ble_eq_true rfl, rfl⟩) d_Mo_spoil_33 (fun H locs hI => ?_)
          obtain ⟨G5, hE_G5⟩ : ∃ z9, gw_up G o (kx (mo_ob q 2 (nI f0) (nI l0) (nI g0))) = z9 := ⟨_, rfl⟩
          rw [hE_G5] at hI
          have hf : gw_fr (mown o q) G G5 := hf.tr (by rw [← hE_G5]; exact gw_fr.up (Or.inl rfl))
          have hM : mdl D G5 o q B 2 f0 l0 g0 fu fn fx fi fl := by rw [← hE_G5]; exact hM.ob hM.f200 hM.l236 hM.g204
          refine lv_aload_n hx hb d_Mo_spoil_36 rfl (lv_at hl 0 rfl) ?_
          refine gw_get M hK hI hM.O i_Mo rfl 0 (by decide) f_Mo_94 rfl (Pv := fun v => v = .int 2) (fun x hx => ⟨_, _, hx, rfl, rfl⟩) d_Mo_spoil_37 (fun v hv => ?_)
          subst hv
          refine lv_if_le (tgt := 45) hx hb d_Mo_spoil_40 (by decide) (fun q9 => absurd q9 (by decide)) (fun c_40 => ?_)
          refine lv_iconst (v := 0) hx hb d_Mo_spoil_43 (by decide) ?_
          exact gw_iret M hr hlo hI d_Mo_spoil_44 (⟨Or.inr (Or.inl ⟨hgd, (fun h9 => c_25 (Int32.not_lt.mp h9.2)), hM⟩), hf⟩)
    · have hr10 := c_10
      refine lv_iconst (v := 1) hx hb d_Mo_spoil_13 (by decide) ?_
      refine lv_goto (tgt := 33) hx hb d_Mo_spoil_14 (by decide) ?_
      refine gw_put M hK hI hM.O i_Mo t_Mo tk_Mo n_Mo rfl 0 (by decide) f_Mo_94 rfl rfl rfl (kx (mo_ob q 1 (nI f0) (nI l0) (nI g0))) (fun x hx => ⟨_, hx, Nat.le_of_ble_eq_true rfl, rfl⟩) d_Mo_spoil_33 (fun H locs hI => ?_)
      obtain ⟨G6, hE_G6⟩ : ∃ z9, gw_up G o (kx (mo_ob q 1 (nI f0) (nI l0) (nI g0))) = z9 := ⟨_, rfl⟩
      rw [hE_G6] at hI
      have hf : gw_fr (mown o q) G G6 := hf.tr (by rw [← hE_G6]; exact gw_fr.up (Or.inl rfl))
      have hM : mdl D G6 o q B 1 f0 l0 g0 fu fn fx fi fl := by rw [← hE_G6]; exact hM.ob hM.f200 hM.l236 hM.g204
      refine lv_aload_n hx hb d_Mo_spoil_36 rfl (lv_at hl 0 rfl) ?_
      refine gw_get M hK hI hM.O i_Mo rfl 0 (by decide) f_Mo_94 rfl (Pv := fun v => v = .int 1) (fun x hx => ⟨_, _, hx, rfl, rfl⟩) d_Mo_spoil_37 (fun v hv => ?_)
      subst hv
      refine lv_if_le (tgt := 45) hx hb d_Mo_spoil_40 (by decide) (fun q9 => absurd q9 (by decide)) (fun c_40 => ?_)
      refine lv_iconst (v := 0) hx hb d_Mo_spoil_43 (by decide) ?_
      exact gw_iret M hr hlo hI d_Mo_spoil_44 (⟨Or.inl ⟨Or.inr c_10, hM⟩, hf⟩)

abbrev rm_Mo_cut : Room := { frames := 0, cells := 0, slots := 0, locals := 0 }
set_option maxHeartbeats 4000000 in
set_option maxRecDepth 100000 in
theorem c_Mo_cut (l : Launch) {D : gw_D} {Hs : Heap} {G : gw_G} (o : Nat) (q : Nat → Nat) (B : Nat) (t0 : Int32) (f0 l0 g0 : Nat) (fu fn fx fi : Nat → Int32) (fl : Nat → Int64) (hM : mdl D G o q B t0 f0 l0 g0 fu fn fx fi fl) (a1 : Int32) : Met l y_Mo_cut (Cond.code y_Mo_cut b_Mo_cut 2 none :: tb) rm_Mo_cut (gw_Pc D Hs G [.ref o, .int a1]) (gw_Qv D Hs (fun G1 => (((a1 < 0 ∨ ¬ a1 ≤ nI l0) ∧ mdl D G1 o q B 1 f0 l0 g0 fu fn fx fi fl) ∨ (¬ (a1 < 0 ∨ ¬ a1 ≤ nI l0) ∧ ∃ n, n ≤ l0 ∧ a1 = nI n ∧ mdl D G1 o q B 0 f0 n g0 fu fn fx fi fl)) ∧ gw_fr (mown o q) G G1)) 0 0 (gw_A Hs) := by
  refine gw_met (by decide) (Nat.le_of_ble_eq_true rfl) ?_
  intro p e s m args below meth c M hK hr hlo hin hI ls hl
  have hx := M.1
  have hb := M.2.1
  have hl : lv_has ls 2 [(0, .ref o), (1, .int a1)] := hl
  have hf : gw_fr (mown o q) G G := gw_fr.rf
  refine lv_aload_n hx hb d_Mo_cut_0 rfl (lv_at hl 0 rfl) ?_
  refine lv_iload_n hx hb d_Mo_cut_1 rfl (lv_at hl 1 rfl) ?_
  refine lv_if_lt (tgt := 13) hx hb d_Mo_cut_2 (by decide) (fun c_2 => ?_) (fun c_2 => ?_)
  · have hr2 := c_2
    refine lv_iconst (v := 1) hx hb d_Mo_cut_13 (by decide) ?_
    refine lv_goto (tgt := 18) hx hb d_Mo_cut_14 (by decide) ?_
    refine gw_put M hK hI hM.O i_Mo t_Mo tk_Mo n_Mo rfl 0 (by decide) f_Mo_94 rfl rfl rfl (kx (mo_ob q 1 (nI f0) (nI l0) (nI g0))) (fun x hx => ⟨_, hx, Nat.le_of_ble_eq_true rfl, rfl⟩) d_Mo_cut_18 (fun H locs hI => ?_)
    obtain ⟨G1, hE_G1⟩ : ∃ z9, gw_up G o (kx (mo_ob q 1 (nI f0) (nI l0) (nI g0))) = z9 := ⟨_, rfl⟩
    rw [hE_G1] at hI
    have hf : gw_fr (mown o q) G G1 := hf.tr (by rw [← hE_G1]; exact gw_fr.up (Or.inl rfl))
    have hM : mdl D G1 o q B 1 f0 l0 g0 fu fn fx fi fl := by rw [← hE_G1]; exact hM.ob hM.f200 hM.l236 hM.g204
    refine lv_aload_n hx hb d_Mo_cut_21 rfl (lv_at hl 0 rfl) ?_
    refine lv_aload_n hx hb d_Mo_cut_22 rfl (lv_at hl 0 rfl) ?_
    refine gw_get M hK hI hM.O i_Mo rfl 0 (by decide) f_Mo_94 rfl (Pv := fun v => v = .int 1) (fun x hx => ⟨_, _, hx, rfl, rfl⟩) d_Mo_cut_23 (fun v hv => ?_)
    subst hv
    refine lv_if_le (tgt := 36) hx hb d_Mo_cut_26 (by decide) (fun q9 => absurd q9 (by decide)) (fun c_26 => ?_)
    refine lv_aload_n hx hb d_Mo_cut_29 rfl (lv_at hl 0 rfl) ?_
    refine gw_get M hK hI hM.O i_Mo rfl 19 (by decide) f_Mo_151 rfl (Pv := fun v => v = .int (nI l0)) (fun x hx => ⟨_, _, hx, rfl, rfl⟩) d_Mo_cut_30 (fun v hv => ?_)
    subst hv
    refine lv_goto (tgt := 37) hx hb d_Mo_cut_33 (by decide) ?_
    refine gw_put M hK hI hM.O i_Mo t_Mo tk_Mo n_Mo rfl 19 (by decide) f_Mo_151 rfl rfl rfl (kx (mo_ob q 1 (nI f0) (nI l0) (nI g0))) (fun x hx => ⟨_, hx, Nat.le_of_ble_eq_true rfl, rfl⟩) d_Mo_cut_37 (fun H locs hI => ?_)
    obtain ⟨G2, hE_G2⟩ : ∃ z9, gw_up G1 o (kx (mo_ob q 1 (nI f0) (nI l0) (nI g0))) = z9 := ⟨_, rfl⟩
    rw [hE_G2] at hI
    have hf : gw_fr (mown o q) G G2 := hf.tr (by rw [← hE_G2]; exact gw_fr.up (Or.inl rfl))
    have hM : mdl D G2 o q B 1 f0 l0 g0 fu fn fx fi fl := by rw [← hE_G2]; exact hM.ob hM.f200 hM.l236 hM.g204
    exact gw_vret M hr hlo hI d_Mo_cut_40 (⟨Or.inl ⟨Or.inl c_2, hM⟩, hf⟩)
  · refine lv_iload_n hx hb d_Mo_cut_5 rfl (lv_at hl 1 rfl) ?_
    refine lv_aload_n hx hb d_Mo_cut_6 rfl (lv_at hl 0 rfl) ?_
    refine gw_get M hK hI hM.O i_Mo rfl 19 (by decide) f_Mo_151 rfl (Pv := fun v => v = .int (nI l0)) (fun x hx => ⟨_, _, hx, rfl, rfl⟩) d_Mo_cut_7 (fun v hv => ?_)
    subst hv
    refine lv_icmp_le (tgt := 17) hx hb d_Mo_cut_10 (by decide) (fun c_10 => ?_) (fun c_10 => ?_)
    · obtain ⟨n, hn, ha1⟩ := in_le c_2 c_10 (Nat.lt_of_le_of_lt hM.l236 (by decide))
      have hl236 := hM.l236
      refine lv_iconst (v := 0) hx hb d_Mo_cut_17 (by decide) ?_
      refine gw_put M hK hI hM.O i_Mo t_Mo tk_Mo n_Mo rfl 0 (by decide) f_Mo_94 rfl rfl rfl (kx (mo_ob q 0 (nI f0) (nI l0) (nI g0))) (fun x hx => ⟨_, hx, Nat.le_of_ble_eq_true rfl, rfl⟩) d_Mo_cut_18 (fun H locs hI => ?_)
      obtain ⟨G3, hE_G3⟩ : ∃ z9, gw_up G o (kx (mo_ob q 0 (nI f0) (nI l0) (nI g0))) = z9 := ⟨_, rfl⟩
      rw [hE_G3] at hI
      have hf : gw_fr (mown o q) G G3 := hf.tr (by rw [← hE_G3]; exact gw_fr.up (Or.inl rfl))
      have hM : mdl D G3 o q B 0 f0 l0 g0 fu fn fx fi fl := by rw [← hE_G3]; exact hM.ob hM.f200 hM.l236 hM.g204
      refine lv_aload_n hx hb d_Mo_cut_21 rfl (lv_at hl 0 rfl) ?_
      refine lv_aload_n hx hb d_Mo_cut_22 rfl (lv_at hl 0 rfl) ?_
      refine gw_get M hK hI hM.O i_Mo rfl 0 (by decide) f_Mo_94 rfl (Pv := fun v => v = .int 0) (fun x hx => ⟨_, _, hx, rfl, rfl⟩) d_Mo_cut_23 (fun v hv => ?_)
      subst hv
      refine lv_if_le (tgt := 36) hx hb d_Mo_cut_26 (by decide) (fun c_26 => ?_) (fun q9 => absurd (by decide) q9)
      refine lv_iload_n hx hb d_Mo_cut_36 rfl (lv_at hl 1 rfl) ?_
      have hv9 : a1 = nI n := ha1
      subst hv9
      refine gw_put M hK hI hM.O i_Mo t_Mo tk_Mo n_Mo rfl 19 (by decide) f_Mo_151 rfl rfl rfl (kx (mo_ob q 0 (nI f0) (nI n) (nI g0))) (fun x hx => ⟨_, hx, Nat.le_of_ble_eq_true rfl, rfl⟩) d_Mo_cut_37 (fun H locs hI => ?_)
      obtain ⟨G4, hE_G4⟩ : ∃ z9, gw_up G3 o (kx (mo_ob q 0 (nI f0) (nI n) (nI g0))) = z9 := ⟨_, rfl⟩
      rw [hE_G4] at hI
      have hf : gw_fr (mown o q) G G4 := hf.tr (by rw [← hE_G4]; exact gw_fr.up (Or.inl rfl))
      have hM : mdl D G4 o q B 0 f0 n g0 fu fn fx fi fl := by rw [← hE_G4]; exact hM.ob hM.f200 (Nat.le_trans hn hl236) hM.g204
      exact gw_vret M hr hlo hI d_Mo_cut_40 (⟨Or.inr ⟨fun q9 => q9.elim c_2 (fun h9 => h9 c_10), n, hn, rfl, hM⟩, hf⟩)
    · have hr10 := c_10
      refine lv_iconst (v := 1) hx hb d_Mo_cut_13 (by decide) ?_
      refine lv_goto (tgt := 18) hx hb d_Mo_cut_14 (by decide) ?_
      refine gw_put M hK hI hM.O i_Mo t_Mo tk_Mo n_Mo rfl 0 (by decide) f_Mo_94 rfl rfl rfl (kx (mo_ob q 1 (nI f0) (nI l0) (nI g0))) (fun x hx => ⟨_, hx, Nat.le_of_ble_eq_true rfl, rfl⟩) d_Mo_cut_18 (fun H locs hI => ?_)
      obtain ⟨G5, hE_G5⟩ : ∃ z9, gw_up G o (kx (mo_ob q 1 (nI f0) (nI l0) (nI g0))) = z9 := ⟨_, rfl⟩
      rw [hE_G5] at hI
      have hf : gw_fr (mown o q) G G5 := hf.tr (by rw [← hE_G5]; exact gw_fr.up (Or.inl rfl))
      have hM : mdl D G5 o q B 1 f0 l0 g0 fu fn fx fi fl := by rw [← hE_G5]; exact hM.ob hM.f200 hM.l236 hM.g204
      refine lv_aload_n hx hb d_Mo_cut_21 rfl (lv_at hl 0 rfl) ?_
      refine lv_aload_n hx hb d_Mo_cut_22 rfl (lv_at hl 0 rfl) ?_
      refine gw_get M hK hI hM.O i_Mo rfl 0 (by decide) f_Mo_94 rfl (Pv := fun v => v = .int 1) (fun x hx => ⟨_, _, hx, rfl, rfl⟩) d_Mo_cut_23 (fun v hv => ?_)
      subst hv
      refine lv_if_le (tgt := 36) hx hb d_Mo_cut_26 (by decide) (fun q9 => absurd q9 (by decide)) (fun c_26 => ?_)
      refine lv_aload_n hx hb d_Mo_cut_29 rfl (lv_at hl 0 rfl) ?_
      refine gw_get M hK hI hM.O i_Mo rfl 19 (by decide) f_Mo_151 rfl (Pv := fun v => v = .int (nI l0)) (fun x hx => ⟨_, _, hx, rfl, rfl⟩) d_Mo_cut_30 (fun v hv => ?_)
      subst hv
      refine lv_goto (tgt := 37) hx hb d_Mo_cut_33 (by decide) ?_
      refine gw_put M hK hI hM.O i_Mo t_Mo tk_Mo n_Mo rfl 19 (by decide) f_Mo_151 rfl rfl rfl (kx (mo_ob q 1 (nI f0) (nI l0) (nI g0))) (fun x hx => ⟨_, hx, Nat.le_of_ble_eq_true rfl, rfl⟩) d_Mo_cut_37 (fun H locs hI => ?_)
      obtain ⟨G6, hE_G6⟩ : ∃ z9, gw_up G5 o (kx (mo_ob q 1 (nI f0) (nI l0) (nI g0))) = z9 := ⟨_, rfl⟩
      rw [hE_G6] at hI
      have hf : gw_fr (mown o q) G G6 := hf.tr (by rw [← hE_G6]; exact gw_fr.up (Or.inl rfl))
      have hM : mdl D G6 o q B 1 f0 l0 g0 fu fn fx fi fl := by rw [← hE_G6]; exact hM.ob hM.f200 hM.l236 hM.g204
      exact gw_vret M hr hlo hI d_Mo_cut_40 (⟨Or.inl ⟨Or.inr c_10, hM⟩, hf⟩)

abbrev rm_Mo_keep : Room := { frames := 0, cells := 0, slots := 0, locals := 0 }
set_option maxHeartbeats 4000000 in
set_option maxRecDepth 100000 in
theorem c_Mo_keep (l : Launch) {D : gw_D} {Hs : Heap} {G : gw_G} (o : Nat) (q : Nat → Nat) (B : Nat) (t0 : Int32) (f0 l0 g0 : Nat) (fu fn fx fi : Nat → Int32) (fl : Nat → Int64) (hM : mdl D G o q B t0 f0 l0 g0 fu fn fx fi fl) (a1 : Int32) : Met l y_Mo_keep (Cond.code y_Mo_keep b_Mo_keep 3 none :: tb) rm_Mo_keep (gw_Pc D Hs G [.ref o, .int a1]) (gw_Qv D Hs (fun G1 => (((a1 < 0 ∨ ¬ a1 ≤ 7) ∧ mdl D G1 o q B 1 f0 l0 g0 fu fn fx fi fl) ∨ (¬ (a1 < 0 ∨ ¬ a1 ≤ 7) ∧ mdl D G1 o q B 0 f0 l0 g0 fu fn fx fi fl)) ∧ gw_fr (mown o q) G G1)) 0 0 (gw_A Hs) := by
  refine gw_met (by decide) (Nat.le_of_ble_eq_true rfl) ?_
  intro p e s m args below meth c M hK hr hlo hin hI ls hl
  have hx := M.1
  have hb := M.2.1
  have hl : lv_has ls 3 [(0, .ref o), (1, .int a1)] := hl
  have hf : gw_fr (mown o q) G G := gw_fr.rf
  refine lv_aload_n hx hb d_Mo_keep_0 rfl (lv_at hl 0 rfl) ?_
  refine lv_iload_n hx hb d_Mo_keep_1 rfl (lv_at hl 1 rfl) ?_
  refine lv_if_lt (tgt := 11) hx hb d_Mo_keep_2 (by decide) (fun c_2 => ?_) (fun c_2 => ?_)
  · have hr2 := c_2
    refine lv_iconst (v := 1) hx hb d_Mo_keep_11 (by decide) ?_
    refine lv_goto (tgt := 16) hx hb d_Mo_keep_12 (by decide) ?_
    refine gw_put M hK hI hM.O i_Mo t_Mo tk_Mo n_Mo rfl 0 (by decide) f_Mo_94 rfl rfl rfl (kx (mo_ob q 1 (nI f0) (nI l0) (nI g0))) (fun x hx => ⟨_, hx, Nat.le_of_ble_eq_true rfl, rfl⟩) d_Mo_keep_16 (fun H locs hI => ?_)
    obtain ⟨G1, hE_G1⟩ : ∃ z9, gw_up G o (kx (mo_ob q 1 (nI f0) (nI l0) (nI g0))) = z9 := ⟨_, rfl⟩
    rw [hE_G1] at hI
    have hf : gw_fr (mown o q) G G1 := hf.tr (by rw [← hE_G1]; exact gw_fr.up (Or.inl rfl))
    have hM : mdl D G1 o q B 1 f0 l0 g0 fu fn fx fi fl := by rw [← hE_G1]; exact hM.ob hM.f200 hM.l236 hM.g204
    refine lv_aload_n hx hb d_Mo_keep_19 rfl (lv_at hl 0 rfl) ?_
    refine gw_get M hK hI hM.O i_Mo rfl 0 (by decide) f_Mo_94 rfl (Pv := fun v => v = .int 1) (fun x hx => ⟨_, _, hx, rfl, rfl⟩) d_Mo_keep_20 (fun v hv => ?_)
    subst hv
    refine lv_if_ne (tgt := 70) hx hb d_Mo_keep_23 (by decide) (fun c_23 => ?_) (fun q9 => absurd q9 (by decide))
    exact gw_vret M hr hlo hI d_Mo_keep_70 (⟨Or.inl ⟨Or.inl c_2, hM⟩, hf⟩)
  · refine lv_iload_n hx hb d_Mo_keep_5 rfl (lv_at hl 1 rfl) ?_
    refine lv_bipush (v := 7) hx hb d_Mo_keep_6 (by decide) ?_
    refine lv_icmp_le (tgt := 15) hx hb d_Mo_keep_8 (by decide) (fun c_8 => ?_) (fun c_8 => ?_)
    · obtain ⟨n, hn, ha1⟩ := in_le (n := 7) c_2 c_8 (by decide)
      have hl236 := hM.l236
      refine lv_iconst (v := 0) hx hb d_Mo_keep_15 (by decide) ?_
      refine gw_put M hK hI hM.O i_Mo t_Mo tk_Mo n_Mo rfl 0 (by decide) f_Mo_94 rfl rfl rfl (kx (mo_ob q 0 (nI f0) (nI l0) (nI g0))) (fun x hx => ⟨_, hx, Nat.le_of_ble_eq_true rfl, rfl⟩) d_Mo_keep_16 (fun H locs hI => ?_)
      obtain ⟨G2, hE_G2⟩ : ∃ z9, gw_up G o (kx (mo_ob q 0 (nI f0) (nI l0) (nI g0))) = z9 := ⟨_, rfl⟩
      rw [hE_G2] at hI
      have hf : gw_fr (mown o q) G G2 := hf.tr (by rw [← hE_G2]; exact gw_fr.up (Or.inl rfl))
      have hM : mdl D G2 o q B 0 f0 l0 g0 fu fn fx fi fl := by rw [← hE_G2]; exact hM.ob hM.f200 hM.l236 hM.g204
      refine lv_aload_n hx hb d_Mo_keep_19 rfl (lv_at hl 0 rfl) ?_
      refine gw_get M hK hI hM.O i_Mo rfl 0 (by decide) f_Mo_94 rfl (Pv := fun v => v = .int 0) (fun x hx => ⟨_, _, hx, rfl, rfl⟩) d_Mo_keep_20 (fun v hv => ?_)
      subst hv
      refine lv_if_ne (tgt := 70) hx hb d_Mo_keep_23 (by decide) (fun q9 => absurd (by decide) q9) (fun c_23 => ?_)
      refine lv_aload_n hx hb d_Mo_keep_26 rfl (lv_at hl 0 rfl) ?_
      refine gw_get M hK hI hM.O i_Mo rfl 21 (by decide) f_Mo_66 rfl (Pv := fun v => v = .ref (q 21)) (fun x hx => ⟨_, _, hx, rfl, rfl⟩) d_Mo_keep_27 (fun v hv => ?_)
      subst hv
      refine lv_iload_n hx hb d_Mo_keep_30 rfl (lv_at hl 1 rfl) ?_
      refine lv_aload_n hx hb d_Mo_keep_31 rfl (lv_at hl 0 rfl) ?_
      refine gw_get M hK hI hM.O i_Mo rfl 19 (by decide) f_Mo_151 rfl (Pv := fun v => v = .int (nI l0)) (fun x hx => ⟨_, _, hx, rfl, rfl⟩) d_Mo_keep_32 (fun v hv => ?_)
      subst hv
      refine gw_iast M hK hI hM.k21 (nb_in ha1 (by omega)) (Or.inr ⟨l0, hl236, rfl⟩) d_Mo_keep_35 (fun H locs hI => ?_)
      refine lv_iconst (v := 0) hx hb d_Mo_keep_36 (by decide) ?_
      refine lv_istore_n (lv' := [(2, .int 0), (0, .ref o), (1, .int a1)]) hx hb d_Mo_keep_37 rfl hl (by decide) rfl (fun ls hl => ?_)
      have L_38 : ∀ (n9 : Nat) (k : Nat) (y2 : Int32) (H : Heap) (locs : List Loc) (ls : Array Slot), k ≤ l0 → y2 = nI k → l0 - k < n9 → gw_I D Hs G2 s.heap H locs → lv_has ls 3 [(2, .int y2), (0, .ref o), (1, .int a1)] → W p l e rm_Mo_keep s m args below meth c H locs 0 0 (MQ below (gw_Qv D Hs (fun G1 => (((a1 < 0 ∨ ¬ a1 ≤ 7) ∧ mdl D G1 o q B 1 f0 l0 g0 fu fn fx fi fl) ∨ (¬ (a1 < 0 ∨ ¬ a1 ≤ 7) ∧ mdl D G1 o q B 0 f0 l0 g0 fu fn fx fi fl)) ∧ gw_fr (mown o q) G G1)) args s 0 0 (gw_A Hs)) (F0 m 38 ls []) := by
        intro n9
        induction n9 with
        | zero =>
          intro k y2 H locs ls bk hk hm hI hl
          exact absurd hm (Nat.not_lt_zero _)
        | succ n9 ih_38 =>
          intro k y2 H locs ls bk hk hm_38 hI hl
          refine lv_iload_n hx hb d_Mo_keep_38 rfl (lv_at hl 0 rfl) ?_
          refine lv_aload_n hx hb d_Mo_keep_39 rfl (lv_at hl 1 rfl) ?_
          refine gw_get M hK hI hM.O i_Mo rfl 19 (by decide) f_Mo_151 rfl (Pv := fun v => v = .int (nI l0)) (fun x hx => ⟨_, _, hx, rfl, rfl⟩) d_Mo_keep_40 (fun v hv => ?_)
          subst hv
          refine lv_icmp_ge (tgt := 70) hx hb d_Mo_keep_43 (by decide) (fun c_43 => ?_) (fun c_43 => ?_)
          · exact gw_vret M hr hlo hI d_Mo_keep_70 (⟨Or.inr ⟨fun q9 => q9.elim c_2 (fun h9 => h9 c_8), hM⟩, hf⟩)
          · have lk : k < l0 := nb_lt (n := l0) hk c_43 (by omega) (by omega)
            refine lv_aload_n hx hb d_Mo_keep_46 rfl (lv_at hl 1 rfl) ?_
            refine gw_get M hK hI hM.O i_Mo rfl 20 (by decide) f_Mo_63 rfl (Pv := fun v => v = .ref (q 20)) (fun x hx => ⟨_, _, hx, rfl, rfl⟩) d_Mo_keep_47 (fun v hv => ?_)
            subst hv
            refine lv_sipush (v := 240) hx hb d_Mo_keep_50 (by decide) ?_
            refine lv_iload_n hx hb d_Mo_keep_53 rfl (lv_at hl 2 rfl) ?_
            refine lv_imul hx hb d_Mo_keep_54 ?_
            refine lv_iload_n hx hb d_Mo_keep_55 rfl (lv_at hl 0 rfl) ?_
            refine lv_iadd hx hb d_Mo_keep_56 ?_
            refine lv_aload_n hx hb d_Mo_keep_57 rfl (lv_at hl 1 rfl) ?_
            refine gw_get M hK hI hM.O i_Mo rfl 18 (by decide) f_Mo_60 rfl (Pv := fun v => v = .ref (q 18)) (fun x hx => ⟨_, _, hx, rfl, rfl⟩) d_Mo_keep_58 (fun v hv => ?_)
            subst hv
            refine lv_iload_n hx hb d_Mo_keep_61 rfl (lv_at hl 0 rfl) ?_
            refine gw_iald M hK hI hM.k18 (nb_in hk (by omega)) d_Mo_keep_62 (fun x3 h_x3 => ?_)
            refine gw_iast M hK hI hM.k20 (nb_in (nb_aa (nb_mul ha1 240) hk) (by omega) (by decide)) h_x3 d_Mo_keep_63 (fun H locs hI => ?_)
            obtain ⟨x4, e_x4⟩ : ∃ ww9 : Int32, ww9 = y2 + 1 := ⟨_, rfl⟩
            refine lv_iinc (v := x4) (lv' := [(2, .int x4), (0, .ref o), (1, .int a1)]) hx hb d_Mo_keep_64 hl (k := 0) rfl (by rw [e_x4]; rfl) (by decide) rfl (fun ls hl => ?_)
            refine lv_goto (tgt := 38) hx hb d_Mo_keep_67 (by decide) ?_
            exact ih_38 (k + 1) x4 _ _ _ lk (nb_s e_x4 hk) (z_m hm_38 lk) hI (lv_sub hl [0, 1, 2] rfl)
      exact L_38 _ 0 0 _ _ _ (Nat.zero_le _) rfl (Nat.lt_succ_self _) hI (lv_sub hl [0, 1, 2] rfl)
    · have hr8 := c_8
      refine lv_iconst (v := 1) hx hb d_Mo_keep_11 (by decide) ?_
      refine lv_goto (tgt := 16) hx hb d_Mo_keep_12 (by decide) ?_
      refine gw_put M hK hI hM.O i_Mo t_Mo tk_Mo n_Mo rfl 0 (by decide) f_Mo_94 rfl rfl rfl (kx (mo_ob q 1 (nI f0) (nI l0) (nI g0))) (fun x hx => ⟨_, hx, Nat.le_of_ble_eq_true rfl, rfl⟩) d_Mo_keep_16 (fun H locs hI => ?_)
      obtain ⟨G5, hE_G5⟩ : ∃ z9, gw_up G o (kx (mo_ob q 1 (nI f0) (nI l0) (nI g0))) = z9 := ⟨_, rfl⟩
      rw [hE_G5] at hI
      have hf : gw_fr (mown o q) G G5 := hf.tr (by rw [← hE_G5]; exact gw_fr.up (Or.inl rfl))
      have hM : mdl D G5 o q B 1 f0 l0 g0 fu fn fx fi fl := by rw [← hE_G5]; exact hM.ob hM.f200 hM.l236 hM.g204
      refine lv_aload_n hx hb d_Mo_keep_19 rfl (lv_at hl 0 rfl) ?_
      refine gw_get M hK hI hM.O i_Mo rfl 0 (by decide) f_Mo_94 rfl (Pv := fun v => v = .int 1) (fun x hx => ⟨_, _, hx, rfl, rfl⟩) d_Mo_keep_20 (fun v hv => ?_)
      subst hv
      refine lv_if_ne (tgt := 70) hx hb d_Mo_keep_23 (by decide) (fun c_23 => ?_) (fun q9 => absurd q9 (by decide))
      exact gw_vret M hr hlo hI d_Mo_keep_70 (⟨Or.inl ⟨Or.inr c_8, hM⟩, hf⟩)

abbrev rm_Mo_bring : Room := { frames := 0, cells := 0, slots := 0, locals := 0 }
set_option maxHeartbeats 4000000 in
set_option maxRecDepth 100000 in
theorem c_Mo_bring (l : Launch) {D : gw_D} {Hs : Heap} {G : gw_G} (o : Nat) (q : Nat → Nat) (B : Nat) (t0 : Int32) (f0 l0 g0 : Nat) (fu fn fx fi : Nat → Int32) (fl : Nat → Int64) (hM : mdl D G o q B t0 f0 l0 g0 fu fn fx fi fl) (a1 : Int32) : Met l y_Mo_bring (Cond.code y_Mo_bring b_Mo_bring 3 (some .int) :: tb) rm_Mo_bring (gw_Pc D Hs G [.ref o, .int a1]) (gw_Qi D Hs (fun r G1 => (((a1 < 0 ∨ ¬ a1 ≤ 7) ∧ mdl D G1 o q B 1 f0 l0 g0 fu fn fx fi fl) ∨ (¬ (a1 < 0 ∨ ¬ a1 ≤ 7) ∧ ((r = -1 ∧ mdl D G1 o q B 0 f0 l0 g0 fu fn fx fi fl) ∨ ∃ n, n ≤ 236 ∧ r = nI n ∧ mdl D G1 o q B 0 f0 n g0 fu fn fx fi fl))) ∧ gw_fr (mown o q) G G1)) 0 0 (gw_A Hs) := by
  refine gw_met (by decide) (Nat.le_of_ble_eq_true rfl) ?_
  intro p e s m args below meth c M hK hr hlo hin hI ls hl
  have hx := M.1
  have hb := M.2.1
  have hl : lv_has ls 3 [(0, .ref o), (1, .int a1)] := hl
  have hf : gw_fr (mown o q) G G := gw_fr.rf
  refine lv_aload_n hx hb d_Mo_bring_0 rfl (lv_at hl 0 rfl) ?_
  refine lv_iload_n hx hb d_Mo_bring_1 rfl (lv_at hl 1 rfl) ?_
  refine lv_if_lt (tgt := 11) hx hb d_Mo_bring_2 (by decide) (fun c_2 => ?_) (fun c_2 => ?_)
  · have hr2 := c_2
    refine lv_iconst (v := 1) hx hb d_Mo_bring_11 (by decide) ?_
    refine lv_goto (tgt := 16) hx hb d_Mo_bring_12 (by decide) ?_
    refine gw_put M hK hI hM.O i_Mo t_Mo tk_Mo n_Mo rfl 0 (by decide) f_Mo_94 rfl rfl rfl (kx (mo_ob q 1 (nI f0) (nI l0) (nI g0))) (fun x hx => ⟨_, hx, Nat.le_of_ble_eq_true rfl, rfl⟩) d_Mo_bring_16 (fun H locs hI => ?_)
    obtain ⟨G1, hE_G1⟩ : ∃ z9, gw_up G o (kx (mo_ob q 1 (nI f0) (nI l0) (nI g0))) = z9 := ⟨_, rfl⟩
    rw [hE_G1] at hI
    have hf : gw_fr (mown o q) G G1 := hf.tr (by rw [← hE_G1]; exact gw_fr.up (Or.inl rfl))
    have hM : mdl D G1 o q B 1 f0 l0 g0 fu fn fx fi fl := by rw [← hE_G1]; exact hM.ob hM.f200 hM.l236 hM.g204
    refine lv_aload_n hx hb d_Mo_bring_19 rfl (lv_at hl 0 rfl) ?_
    refine gw_get M hK hI hM.O i_Mo rfl 0 (by decide) f_Mo_94 rfl (Pv := fun v => v = .int 1) (fun x hx => ⟨_, _, hx, rfl, rfl⟩) d_Mo_bring_20 (fun v hv => ?_)
    subst hv
    refine lv_if_le (tgt := 28) hx hb d_Mo_bring_23 (by decide) (fun q9 => absurd q9 (by decide)) (fun c_23 => ?_)
    refine lv_iconst (v := 0) hx hb d_Mo_bring_26 (by decide) ?_
    exact gw_iret M hr hlo hI d_Mo_bring_27 (⟨Or.inl ⟨Or.inl c_2, hM⟩, hf⟩)
  · refine lv_iload_n hx hb d_Mo_bring_5 rfl (lv_at hl 1 rfl) ?_
    refine lv_bipush (v := 7) hx hb d_Mo_bring_6 (by decide) ?_
    refine lv_icmp_le (tgt := 15) hx hb d_Mo_bring_8 (by decide) (fun c_8 => ?_) (fun c_8 => ?_)
    · obtain ⟨n, hn, ha1⟩ := in_le (n := 7) c_2 c_8 (by decide)
      refine lv_iconst (v := 0) hx hb d_Mo_bring_15 (by decide) ?_
      refine gw_put M hK hI hM.O i_Mo t_Mo tk_Mo n_Mo rfl 0 (by decide) f_Mo_94 rfl rfl rfl (kx (mo_ob q 0 (nI f0) (nI l0) (nI g0))) (fun x hx => ⟨_, hx, Nat.le_of_ble_eq_true rfl, rfl⟩) d_Mo_bring_16 (fun H locs hI => ?_)
      obtain ⟨G2, hE_G2⟩ : ∃ z9, gw_up G o (kx (mo_ob q 0 (nI f0) (nI l0) (nI g0))) = z9 := ⟨_, rfl⟩
      rw [hE_G2] at hI
      have hf : gw_fr (mown o q) G G2 := hf.tr (by rw [← hE_G2]; exact gw_fr.up (Or.inl rfl))
      have hM : mdl D G2 o q B 0 f0 l0 g0 fu fn fx fi fl := by rw [← hE_G2]; exact hM.ob hM.f200 hM.l236 hM.g204
      refine lv_aload_n hx hb d_Mo_bring_19 rfl (lv_at hl 0 rfl) ?_
      refine gw_get M hK hI hM.O i_Mo rfl 0 (by decide) f_Mo_94 rfl (Pv := fun v => v = .int 0) (fun x hx => ⟨_, _, hx, rfl, rfl⟩) d_Mo_bring_20 (fun v hv => ?_)
      subst hv
      refine lv_if_le (tgt := 28) hx hb d_Mo_bring_23 (by decide) (fun c_23 => ?_) (fun q9 => absurd (by decide) q9)
      have hIs := hI
      obtain ⟨e9, ⟨fk, hfk, hq9⟩, hP9⟩ := hI.1.opn hM.k21
      subst hq9
      have hI : gw_I D Hs (gw_up G2 (q 21) (kx (.inl (D.2 0, 8, .inl fk)))) s.heap _ _ := ⟨hP9, hI.2⟩
      have hO21 : (gw_up G2 (q 21) (kx (.inl (D.2 0, 8, .inl fk)))) (q 21) = some (kx (.inl (D.2 0, 8, .inl fk))) := gw_up_s
      have hOo : (gw_up G2 (q 21) (kx (.inl (D.2 0, 8, .inl fk)))) o = some (kx (mo_ob q 0 (nI f0) (nI l0) (nI g0))) := (gw_up_n (Ne.symm (hM.2.1 21 rfl).2)).trans hM.O
      refine lv_aload_n hx hb d_Mo_bring_28 rfl (lv_at hl 0 rfl) ?_
      refine gw_get M hK hI hOo i_Mo rfl 21 (by decide) f_Mo_66 rfl (Pv := fun v => v = .ref (q 21)) (fun x hx => ⟨_, _, hx, rfl, rfl⟩) d_Mo_bring_29 (fun v hv => ?_)
      subst hv
      refine lv_iload_n hx hb d_Mo_bring_32 rfl (lv_at hl 1 rfl) ?_
      refine gw_ialdx M hK hI hO21 (nb_in ha1 (by omega)) d_Mo_bring_33 ?_
      rw [show (a1).toNatClampNeg = n from (nb_cl ha1)]
      refine lv_if_ge (tgt := 39) hx hb d_Mo_bring_34 (by decide) (fun c_34 => ?_) (fun c_34 => ?_)
      · refine lv_aload_n hx hb d_Mo_bring_39 rfl (lv_at hl 0 rfl) ?_
        refine lv_aload_n hx hb d_Mo_bring_40 rfl (lv_at hl 0 rfl) ?_
        refine gw_get M hK hI hOo i_Mo rfl 21 (by decide) f_Mo_66 rfl (Pv := fun v => v = .ref (q 21)) (fun x hx => ⟨_, _, hx, rfl, rfl⟩) d_Mo_bring_41 (fun v hv => ?_)
        subst hv
        refine lv_iload_n hx hb d_Mo_bring_44 rfl (lv_at hl 1 rfl) ?_
        refine gw_ialdx M hK hI hO21 (nb_in ha1 (by omega)) d_Mo_bring_45 ?_
        rw [show (a1).toNatClampNeg = n from (nb_cl ha1)]
        have hI := hIs
        obtain ⟨m9, hm9, hfe⟩ : ∃ m, m ≤ 236 ∧ fk n = nI m := (hfk n (by omega)).resolve_left (fun q9 => absurd c_34 (by rw [q9]; decide))
        refine lv_topi (fun x3 e_x3 => ?_)
        have hv9 : x3 = nI m9 := (by rw [e_x3]; exact hfe)
        subst hv9
        refine gw_put M hK hI hM.O i_Mo t_Mo tk_Mo n_Mo rfl 19 (by decide) f_Mo_151 rfl rfl rfl (kx (mo_ob q 0 (nI f0) (nI m9) (nI g0))) (fun x hx => ⟨_, hx, Nat.le_of_ble_eq_true rfl, rfl⟩) d_Mo_bring_46 (fun H locs hI => ?_)
        obtain ⟨G4, hE_G4⟩ : ∃ z9, gw_up G2 o (kx (mo_ob q 0 (nI f0) (nI m9) (nI g0))) = z9 := ⟨_, rfl⟩
        rw [hE_G4] at hI
        have hf : gw_fr (mown o q) G G4 := hf.tr (by rw [← hE_G4]; exact gw_fr.up (Or.inl rfl))
        have hM : mdl D G4 o q B 0 f0 m9 g0 fu fn fx fi fl := by rw [← hE_G4]; exact hM.ob hM.f200 hm9 hM.g204
        refine lv_iconst (v := 0) hx hb d_Mo_bring_49 (by decide) ?_
        refine lv_istore_n (lv' := [(2, .int 0), (0, .ref o), (1, .int a1)]) hx hb d_Mo_bring_50 rfl hl (by decide) rfl (fun ls hl => ?_)
        have L_51 : ∀ (n9 : Nat) (k : Nat) (y2 : Int32) (H : Heap) (locs : List Loc) (ls : Array Slot), k ≤ m9 → y2 = nI k → m9 - k < n9 → gw_I D Hs G4 s.heap H locs → lv_has ls 3 [(2, .int y2), (0, .ref o), (1, .int a1)] → W p l e rm_Mo_bring s m args below meth c H locs 0 0 (MQ below (gw_Qi D Hs (fun r G1 => (((a1 < 0 ∨ ¬ a1 ≤ 7) ∧ mdl D G1 o q B 1 f0 l0 g0 fu fn fx fi fl) ∨ (¬ (a1 < 0 ∨ ¬ a1 ≤ 7) ∧ ((r = -1 ∧ mdl D G1 o q B 0 f0 l0 g0 fu fn fx fi fl) ∨ ∃ n, n ≤ 236 ∧ r = nI n ∧ mdl D G1 o q B 0 f0 n g0 fu fn fx fi fl))) ∧ gw_fr (mown o q) G G1)) args s 0 0 (gw_A Hs)) (F0 m 51 ls []) := by
          intro n9
          induction n9 with
          | zero =>
            intro k y2 H locs ls bk hk hm hI hl
            exact absurd hm (Nat.not_lt_zero _)
          | succ n9 ih_51 =>
            intro k y2 H locs ls bk hk hm_51 hI hl
            refine lv_iload_n hx hb d_Mo_bring_51 rfl (lv_at hl 0 rfl) ?_
            refine lv_aload_n hx hb d_Mo_bring_52 rfl (lv_at hl 1 rfl) ?_
            refine gw_get M hK hI hM.O i_Mo rfl 19 (by decide) f_Mo_151 rfl (Pv := fun v => v = .int (nI m9)) (fun x hx => ⟨_, _, hx, rfl, rfl⟩) d_Mo_bring_53 (fun v hv => ?_)
            subst hv
            refine lv_icmp_ge (tgt := 83) hx hb d_Mo_bring_56 (by decide) (fun c_56 => ?_) (fun c_56 => ?_)
            · refine lv_aload_n hx hb d_Mo_bring_83 rfl (lv_at hl 1 rfl) ?_
              refine gw_get M hK hI hM.O i_Mo rfl 19 (by decide) f_Mo_151 rfl (Pv := fun v => v = .int (nI m9)) (fun x hx => ⟨_, _, hx, rfl, rfl⟩) d_Mo_bring_84 (fun v hv => ?_)
              subst hv
              exact gw_iret M hr hlo hI d_Mo_bring_87 (⟨Or.inr ⟨fun q9 => q9.elim c_2 (fun h9 => h9 c_8), Or.inr ⟨m9, hm9, rfl, hM⟩⟩, hf⟩)
            · have lk : k < m9 := nb_lt (n := m9) hk c_56 (by omega) (by omega)
              refine lv_aload_n hx hb d_Mo_bring_59 rfl (lv_at hl 1 rfl) ?_
              refine gw_get M hK hI hM.O i_Mo rfl 18 (by decide) f_Mo_60 rfl (Pv := fun v => v = .ref (q 18)) (fun x hx => ⟨_, _, hx, rfl, rfl⟩) d_Mo_bring_60 (fun v hv => ?_)
              subst hv
              refine lv_iload_n hx hb d_Mo_bring_63 rfl (lv_at hl 0 rfl) ?_
              refine lv_aload_n hx hb d_Mo_bring_64 rfl (lv_at hl 1 rfl) ?_
              refine gw_get M hK hI hM.O i_Mo rfl 20 (by decide) f_Mo_63 rfl (Pv := fun v => v = .ref (q 20)) (fun x hx => ⟨_, _, hx, rfl, rfl⟩) d_Mo_bring_65 (fun v hv => ?_)
              subst hv
              refine lv_sipush (v := 240) hx hb d_Mo_bring_68 (by decide) ?_
              refine lv_iload_n hx hb d_Mo_bring_71 rfl (lv_at hl 2 rfl) ?_
              refine lv_imul hx hb d_Mo_bring_72 ?_
              refine lv_iload_n hx hb d_Mo_bring_73 rfl (lv_at hl 0 rfl) ?_
              refine lv_iadd hx hb d_Mo_bring_74 ?_
              refine gw_iald M hK hI hM.k20 (nb_in (nb_aa (nb_mul ha1 240) hk) (by omega) (by decide)) d_Mo_bring_75 (fun x5 h_x5 => ?_)
              refine gw_iast M hK hI hM.k18 (nb_in hk (by omega)) h_x5 d_Mo_bring_76 (fun H locs hI => ?_)
              obtain ⟨x6, e_x6⟩ : ∃ ww9 : Int32, ww9 = y2 + 1 := ⟨_, rfl⟩
              refine lv_iinc (v := x6) (lv' := [(2, .int x6), (0, .ref o), (1, .int a1)]) hx hb d_Mo_bring_77 hl (k := 0) rfl (by rw [e_x6]; rfl) (by decide) rfl (fun ls hl => ?_)
              refine lv_goto (tgt := 51) hx hb d_Mo_bring_80 (by decide) ?_
              exact ih_51 (k + 1) x6 _ _ _ lk (nb_s e_x6 hk) (z_m hm_51 lk) hI (lv_sub hl [0, 1, 2] rfl)
        exact L_51 _ 0 0 _ _ _ (Nat.zero_le _) rfl (Nat.lt_succ_self _) hI (lv_sub hl [0, 1, 2] rfl)
      · have hI := hIs
        refine lv_iconst (v := (-1)) hx hb d_Mo_bring_37 (by decide) ?_
        exact gw_iret M hr hlo hI d_Mo_bring_38 (⟨Or.inr ⟨fun q9 => q9.elim c_2 (fun h9 => h9 c_8), Or.inl ⟨rfl, hM⟩⟩, hf⟩)
    · have hr8 := c_8
      refine lv_iconst (v := 1) hx hb d_Mo_bring_11 (by decide) ?_
      refine lv_goto (tgt := 16) hx hb d_Mo_bring_12 (by decide) ?_
      refine gw_put M hK hI hM.O i_Mo t_Mo tk_Mo n_Mo rfl 0 (by decide) f_Mo_94 rfl rfl rfl (kx (mo_ob q 1 (nI f0) (nI l0) (nI g0))) (fun x hx => ⟨_, hx, Nat.le_of_ble_eq_true rfl, rfl⟩) d_Mo_bring_16 (fun H locs hI => ?_)
      obtain ⟨G7, hE_G7⟩ : ∃ z9, gw_up G o (kx (mo_ob q 1 (nI f0) (nI l0) (nI g0))) = z9 := ⟨_, rfl⟩
      rw [hE_G7] at hI
      have hf : gw_fr (mown o q) G G7 := hf.tr (by rw [← hE_G7]; exact gw_fr.up (Or.inl rfl))
      have hM : mdl D G7 o q B 1 f0 l0 g0 fu fn fx fi fl := by rw [← hE_G7]; exact hM.ob hM.f200 hM.l236 hM.g204
      refine lv_aload_n hx hb d_Mo_bring_19 rfl (lv_at hl 0 rfl) ?_
      refine gw_get M hK hI hM.O i_Mo rfl 0 (by decide) f_Mo_94 rfl (Pv := fun v => v = .int 1) (fun x hx => ⟨_, _, hx, rfl, rfl⟩) d_Mo_bring_20 (fun v hv => ?_)
      subst hv
      refine lv_if_le (tgt := 28) hx hb d_Mo_bring_23 (by decide) (fun q9 => absurd q9 (by decide)) (fun c_23 => ?_)
      refine lv_iconst (v := 0) hx hb d_Mo_bring_26 (by decide) ?_
      exact gw_iret M hr hlo hI d_Mo_bring_27 (⟨Or.inl ⟨Or.inr c_8, hM⟩, hf⟩)
