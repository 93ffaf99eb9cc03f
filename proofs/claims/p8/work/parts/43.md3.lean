abbrev rm_Mo_sealn : Room := { frames := 1, cells := 0, slots := 0, locals := 22 }
set_option maxHeartbeats 4000000 in
set_option maxRecDepth 100000 in
theorem c_Mo_sealn (l : Launch) {D : gw_D} {Hs : Heap} {G : gw_G} (o : Nat) (q : Nat → Nat) (B : Nat) (t0 : Int32) (f0 l0 g0 : Nat) (fu fn fx fi : Nat → Int32) (fl : Nat → Int64) (hM : mdl D G o q B t0 f0 l0 g0 fu fn fx fi fl) (n1 : Int32) (hfi : ∀ j, j < 16 → ¬ (¬ fu j = 0 ∧ fn j = n1)) (a2 : Int32) : Met l y_Mo_seal (Cond.code y_Mo_seal b_Mo_seal 7 (some .int) :: tb) rm_Mo_sealn (gw_Pc D Hs G [.ref o, .int n1, .int a2]) (gw_Qi D Hs (fun r G1 => mdl D G1 o q B 1 f0 l0 g0 fu fn fx fi fl ∧ gw_fr (mown o q) G G1)) 0 0 (gw_A Hs) := by
  refine gw_met (by decide) (Nat.le_of_ble_eq_true rfl) ?_
  intro p e s m args below meth c M hK hr hlo hin hI ls hl
  have hx := M.1
  have hb := M.2.1
  have hl : lv_has ls 7 [(0, .ref o), (1, .int n1), (2, .int a2)] := hl
  have hf : gw_fr (mown o q) G G := gw_fr.rf
  refine lv_aload_n hx hb d_Mo_seal_0 rfl (lv_at hl 0 rfl) ?_
  refine lv_iload_n hx hb d_Mo_seal_1 rfl (lv_at hl 1 rfl) ?_
  refine gw_Vi (As := [.int n1]) (rest := []) M hK hI (c_Mo_findn l o q B t0 f0 l0 g0 fu fn fx fi fl hM n1 hfi) k_Mo_find m_Mo_135 hM.O (ci := 6) rfl (fun x hx => ⟨_, hx⟩) rfl hl.1 rfl (Nat.le_of_ble_eq_true rfl) ⟨rfl, rfl, ⟨Nat.le_of_ble_eq_true rfl, Nat.le_of_ble_eq_true rfl⟩, ⟨Nat.le_of_ble_eq_true rfl, Nat.le_of_ble_eq_true rfl⟩⟩ d_Mo_seal_2 (fun x1 G9 H locs hw hI => ?_)
  obtain ⟨h_x1, hw⟩ := hw
  rw [hw] at hI
  subst h_x1
  refine lv_istore_n (lv' := [(3, .int (-1)), (0, .ref o), (1, .int n1), (2, .int a2)]) hx hb d_Mo_seal_5 rfl hl (by decide) rfl (fun ls hl => ?_)
  refine lv_aload_n hx hb d_Mo_seal_6 rfl (lv_at hl 1 rfl) ?_
  refine lv_iload_n hx hb d_Mo_seal_7 rfl (lv_at hl 0 rfl) ?_
  refine lv_if_ge (tgt := 15) hx hb d_Mo_seal_8 (by decide) (fun q9 => absurd q9 (by decide)) (fun c_8 => ?_)
  refine lv_iconst (v := 1) hx hb d_Mo_seal_11 (by decide) ?_
  refine lv_goto (tgt := 31) hx hb d_Mo_seal_12 (by decide) ?_
  refine gw_put M hK hI hM.O i_Mo t_Mo tk_Mo n_Mo rfl 0 (by decide) f_Mo_94 rfl rfl rfl (kx (mo_ob q 1 (nI f0) (nI l0) (nI g0))) (fun x hx => ⟨_, hx, Nat.le_of_ble_eq_true rfl, rfl⟩) d_Mo_seal_31 (fun H locs hI => ?_)
  obtain ⟨G2, hE_G2⟩ : ∃ z9, gw_up G o (kx (mo_ob q 1 (nI f0) (nI l0) (nI g0))) = z9 := ⟨_, rfl⟩
  rw [hE_G2] at hI
  have hf : gw_fr (mown o q) G G2 := hf.tr (by rw [← hE_G2]; exact gw_fr.up (Or.inl rfl))
  have hM : mdl D G2 o q B 1 f0 l0 g0 fu fn fx fi fl := by rw [← hE_G2]; exact hM.ob hM.f200 hM.l236 hM.g204
  refine lv_aload_n hx hb d_Mo_seal_34 rfl (lv_at hl 1 rfl) ?_
  refine gw_get M hK hI hM.O i_Mo rfl 0 (by decide) f_Mo_94 rfl (Pv := fun v => v = .int 1) (fun x hx => ⟨_, _, hx, rfl, rfl⟩) d_Mo_seal_35 (fun v hv => ?_)
  subst hv
  refine lv_if_le (tgt := 43) hx hb d_Mo_seal_38 (by decide) (fun q9 => absurd q9 (by decide)) (fun c_38 => ?_)
  refine lv_iconst (v := 0) hx hb d_Mo_seal_41 (by decide) ?_
  exact gw_iret M hr hlo hI d_Mo_seal_42 (⟨hM, hf⟩)

abbrev rm_Mo_sealb : Room := { frames := 1, cells := 0, slots := 0, locals := 22 }
set_option maxHeartbeats 4000000 in
set_option maxRecDepth 100000 in
theorem c_Mo_sealb (l : Launch) {D : gw_D} {Hs : Heap} {G : gw_G} (o : Nat) (q : Nat → Nat) (B : Nat) (t0 : Int32) (f0 l0 g0 : Nat) (fu fn fx fi : Nat → Int32) (fl : Nat → Int64) (hM : mdl D G o q B t0 f0 l0 g0 fu fn fx fi fl) (n1 : Int32) (s1 : Nat) (hfi : isFi fu fn n1 s1) (hs1 : s1 < 16) (a2 : Int32) (hbad : ¬ okB a2) : Met l y_Mo_seal (Cond.code y_Mo_seal b_Mo_seal 7 (some .int) :: tb) rm_Mo_sealb (gw_Pc D Hs G [.ref o, .int n1, .int a2]) (gw_Qi D Hs (fun r G1 => mdl D G1 o q B 2 f0 l0 g0 fu fn fx fi fl ∧ gw_fr (mown o q) G G1)) 0 0 (gw_A Hs) := by
  refine gw_met (by decide) (Nat.le_of_ble_eq_true rfl) ?_
  intro p e s m args below meth c M hK hr hlo hin hI ls hl
  have hx := M.1
  have hb := M.2.1
  have hl : lv_has ls 7 [(0, .ref o), (1, .int n1), (2, .int a2)] := hl
  have hf : gw_fr (mown o q) G G := gw_fr.rf
  refine lv_aload_n hx hb d_Mo_seal_0 rfl (lv_at hl 0 rfl) ?_
  refine lv_iload_n hx hb d_Mo_seal_1 rfl (lv_at hl 1 rfl) ?_
  refine gw_Vi (As := [.int n1]) (rest := []) M hK hI (c_Mo_findf l o q B t0 f0 l0 g0 fu fn fx fi fl hM n1 s1 hfi hs1) k_Mo_find m_Mo_135 hM.O (ci := 6) rfl (fun x hx => ⟨_, hx⟩) rfl hl.1 rfl (Nat.le_of_ble_eq_true rfl) ⟨rfl, rfl, ⟨Nat.le_of_ble_eq_true rfl, Nat.le_of_ble_eq_true rfl⟩, ⟨Nat.le_of_ble_eq_true rfl, Nat.le_of_ble_eq_true rfl⟩⟩ d_Mo_seal_2 (fun x1 G9 H locs hw hI => ?_)
  obtain ⟨h_x1, hw⟩ := hw
  rw [hw] at hI
  subst h_x1
  refine lv_istore_n (lv' := [(3, .int (nI s1)), (0, .ref o), (1, .int n1), (2, .int a2)]) hx hb d_Mo_seal_5 rfl hl (by decide) rfl (fun ls hl => ?_)
  refine lv_aload_n hx hb d_Mo_seal_6 rfl (lv_at hl 1 rfl) ?_
  refine lv_iload_n hx hb d_Mo_seal_7 rfl (lv_at hl 0 rfl) ?_
  refine lv_if_ge (tgt := 15) hx hb d_Mo_seal_8 (by decide) (fun c_8 => ?_) (fun q9 => absurd (Int32.not_lt.mp (nI_nn (by omega))) q9)
  refine lv_iload_n hx hb d_Mo_seal_15 rfl (lv_at hl 3 rfl) ?_
  refine lv_if_lt (tgt := 26) hx hb d_Mo_seal_16 (by decide) (fun c_16 => ?_) (fun c_16 => ?_)
  · refine lv_iconst (v := 2) hx hb d_Mo_seal_26 (by decide) ?_
    refine lv_goto (tgt := 31) hx hb d_Mo_seal_27 (by decide) ?_
    refine gw_put M hK hI hM.O i_Mo t_Mo tk_Mo n_Mo rfl 0 (by decide) f_Mo_94 rfl rfl rfl (kx (mo_ob q 2 (nI f0) (nI l0) (nI g0))) (fun x hx => ⟨_, hx, Nat.le_of_ble_eq_true rfl, rfl⟩) d_Mo_seal_31 (fun H locs hI => ?_)
    obtain ⟨G2, hE_G2⟩ : ∃ z9, gw_up G o (kx (mo_ob q 2 (nI f0) (nI l0) (nI g0))) = z9 := ⟨_, rfl⟩
    rw [hE_G2] at hI
    have hf : gw_fr (mown o q) G G2 := hf.tr (by rw [← hE_G2]; exact gw_fr.up (Or.inl rfl))
    have hM : mdl D G2 o q B 2 f0 l0 g0 fu fn fx fi fl := by rw [← hE_G2]; exact hM.ob hM.f200 hM.l236 hM.g204
    refine lv_aload_n hx hb d_Mo_seal_34 rfl (lv_at hl 1 rfl) ?_
    refine gw_get M hK hI hM.O i_Mo rfl 0 (by decide) f_Mo_94 rfl (Pv := fun v => v = .int 2) (fun x hx => ⟨_, _, hx, rfl, rfl⟩) d_Mo_seal_35 (fun v hv => ?_)
    subst hv
    refine lv_if_le (tgt := 43) hx hb d_Mo_seal_38 (by decide) (fun q9 => absurd q9 (by decide)) (fun c_38 => ?_)
    refine lv_iconst (v := 0) hx hb d_Mo_seal_41 (by decide) ?_
    exact gw_iret M hr hlo hI d_Mo_seal_42 (⟨hM, hf⟩)
  · refine lv_iload_n hx hb d_Mo_seal_19 rfl (lv_at hl 3 rfl) ?_
    refine lv_sipush (v := 255) hx hb d_Mo_seal_20 (by decide) ?_
    refine lv_icmp_le (tgt := 30) hx hb d_Mo_seal_23 (by decide) (fun q9 => absurd q9 (fun h9 => hbad ⟨c_16, Int32.not_lt.mpr h9⟩)) (fun c_23 => ?_)
    refine lv_iconst (v := 2) hx hb d_Mo_seal_26 (by decide) ?_
    refine lv_goto (tgt := 31) hx hb d_Mo_seal_27 (by decide) ?_
    refine gw_put M hK hI hM.O i_Mo t_Mo tk_Mo n_Mo rfl 0 (by decide) f_Mo_94 rfl rfl rfl (kx (mo_ob q 2 (nI f0) (nI l0) (nI g0))) (fun x hx => ⟨_, hx, Nat.le_of_ble_eq_true rfl, rfl⟩) d_Mo_seal_31 (fun H locs hI => ?_)
    obtain ⟨G3, hE_G3⟩ : ∃ z9, gw_up G o (kx (mo_ob q 2 (nI f0) (nI l0) (nI g0))) = z9 := ⟨_, rfl⟩
    rw [hE_G3] at hI
    have hf : gw_fr (mown o q) G G3 := hf.tr (by rw [← hE_G3]; exact gw_fr.up (Or.inl rfl))
    have hM : mdl D G3 o q B 2 f0 l0 g0 fu fn fx fi fl := by rw [← hE_G3]; exact hM.ob hM.f200 hM.l236 hM.g204
    refine lv_aload_n hx hb d_Mo_seal_34 rfl (lv_at hl 1 rfl) ?_
    refine gw_get M hK hI hM.O i_Mo rfl 0 (by decide) f_Mo_94 rfl (Pv := fun v => v = .int 2) (fun x hx => ⟨_, _, hx, rfl, rfl⟩) d_Mo_seal_35 (fun v hv => ?_)
    subst hv
    refine lv_if_le (tgt := 43) hx hb d_Mo_seal_38 (by decide) (fun q9 => absurd q9 (by decide)) (fun c_38 => ?_)
    refine lv_iconst (v := 0) hx hb d_Mo_seal_41 (by decide) ?_
    exact gw_iret M hr hlo hI d_Mo_seal_42 (⟨hM, hf⟩)

abbrev rm_Mo_sealf : Room := { frames := 5, cells := 0, slots := 0, locals := 121 }
set_option maxHeartbeats 4000000 in
set_option maxRecDepth 100000 in
theorem c_Mo_sealf (l : Launch) {D : gw_D} {Hs : Heap} {G : gw_G} (o : Nat) (q : Nat → Nat) (B : Nat) (t0 : Int32) (f0 l0 g0 : Nat) (fu fn fx fi : Nat → Int32) (fl : Nat → Int64) (hM : mdl D G o q B t0 f0 l0 g0 fu fn fx fi fl) (n1 : Int32) (s1 : Nat) (hfi : isFi fu fn n1 s1) (hs1 : s1 < 16) (a2 : Int32) (hok : okB a2) : Met l y_Mo_seal (Cond.code y_Mo_seal b_Mo_seal 7 (some .int) :: tb) rm_Mo_sealf (gw_Pc D Hs G [.ref o, .int n1, .int a2]) (gw_Qi D Hs (fun r G1 => (((fl s1 = gre (fx s1) ∨ ¬ nI f0 ≤ fi s1) ∧ r = -1 ∧ mdl D G1 o q B 0 f0 l0 g0 fu fn fx fi fl) ∨ (¬ (fl s1 = gre (fx s1) ∨ ¬ nI f0 ≤ fi s1) ∧ r = nI (f0 + 34 + (4 - (f0 + 2) % 4) % 4) ∧ mdl D G1 o q B 0 f0 (f0 + 34 + (4 - (f0 + 2) % 4) % 4) g0 fu fn fx (upd fi s1 (fi s1 - nI f0)) (vp_updL fl s1 (fl s1 + 1)))) ∧ gw_fr (mown o q) G G1)) 0 0 (gw_A Hs) := by
  refine gw_met (by decide) (Nat.le_of_ble_eq_true rfl) ?_
  intro p e s m args below meth c M hK hr hlo hin hI ls hl
  have hx := M.1
  have hb := M.2.1
  have hl : lv_has ls 7 [(0, .ref o), (1, .int n1), (2, .int a2)] := hl
  have hf : gw_fr (mown o q) G G := gw_fr.rf
  have hf200 := hM.f200
  have h_a2 : by8 a2 := by8_le hok.1 (Int32.not_lt.mp hok.2)
  refine lv_aload_n hx hb d_Mo_seal_0 rfl (lv_at hl 0 rfl) ?_
  refine lv_iload_n hx hb d_Mo_seal_1 rfl (lv_at hl 1 rfl) ?_
  refine gw_Vi (As := [.int n1]) (rest := []) M hK hI (c_Mo_findf l o q B t0 f0 l0 g0 fu fn fx fi fl hM n1 s1 hfi hs1) k_Mo_find m_Mo_135 hM.O (ci := 6) rfl (fun x hx => ⟨_, hx⟩) rfl hl.1 rfl (Nat.le_of_ble_eq_true rfl) ⟨rfl, rfl, ⟨Nat.le_of_ble_eq_true rfl, Nat.le_of_ble_eq_true rfl⟩, ⟨Nat.le_of_ble_eq_true rfl, Nat.le_of_ble_eq_true rfl⟩⟩ d_Mo_seal_2 (fun x1 G9 H locs hw hI => ?_)
  obtain ⟨h_x1, hw⟩ := hw
  rw [hw] at hI
  subst h_x1
  refine lv_istore_n (lv' := [(3, .int (nI s1)), (0, .ref o), (1, .int n1), (2, .int a2)]) hx hb d_Mo_seal_5 rfl hl (by decide) rfl (fun ls hl => ?_)
  refine lv_aload_n hx hb d_Mo_seal_6 rfl (lv_at hl 1 rfl) ?_
  refine lv_iload_n hx hb d_Mo_seal_7 rfl (lv_at hl 0 rfl) ?_
  refine lv_if_ge (tgt := 15) hx hb d_Mo_seal_8 (by decide) (fun c_8 => ?_) (fun q9 => absurd (Int32.not_lt.mp (nI_nn (by omega))) q9)
  refine lv_iload_n hx hb d_Mo_seal_15 rfl (lv_at hl 3 rfl) ?_
  refine lv_if_lt (tgt := 26) hx hb d_Mo_seal_16 (by decide) (fun q9 => absurd q9 hok.1) (fun c_16 => ?_)
  refine lv_iload_n hx hb d_Mo_seal_19 rfl (lv_at hl 3 rfl) ?_
  refine lv_sipush (v := 255) hx hb d_Mo_seal_20 (by decide) ?_
  refine lv_icmp_le (tgt := 30) hx hb d_Mo_seal_23 (by decide) (fun c_23 => ?_) (fun q9 => absurd (Int32.not_lt.mp hok.2) q9)
  refine lv_iconst (v := 0) hx hb d_Mo_seal_30 (by decide) ?_
  refine gw_put M hK hI hM.O i_Mo t_Mo tk_Mo n_Mo rfl 0 (by decide) f_Mo_94 rfl rfl rfl (kx (mo_ob q 0 (nI f0) (nI l0) (nI g0))) (fun x hx => ⟨_, hx, Nat.le_of_ble_eq_true rfl, rfl⟩) d_Mo_seal_31 (fun H locs hI => ?_)
  obtain ⟨G2, hE_G2⟩ : ∃ z9, gw_up G o (kx (mo_ob q 0 (nI f0) (nI l0) (nI g0))) = z9 := ⟨_, rfl⟩
  rw [hE_G2] at hI
  have hf : gw_fr (mown o q) G G2 := hf.tr (by rw [← hE_G2]; exact gw_fr.up (Or.inl rfl))
  have hM : mdl D G2 o q B 0 f0 l0 g0 fu fn fx fi fl := by rw [← hE_G2]; exact hM.ob hM.f200 hM.l236 hM.g204
  refine lv_aload_n hx hb d_Mo_seal_34 rfl (lv_at hl 1 rfl) ?_
  refine gw_get M hK hI hM.O i_Mo rfl 0 (by decide) f_Mo_94 rfl (Pv := fun v => v = .int 0) (fun x hx => ⟨_, _, hx, rfl, rfl⟩) d_Mo_seal_35 (fun v hv => ?_)
  subst hv
  refine lv_if_le (tgt := 43) hx hb d_Mo_seal_38 (by decide) (fun c_38 => ?_) (fun q9 => absurd (by decide) q9)
  refine lv_aload_n hx hb d_Mo_seal_43 rfl (lv_at hl 1 rfl) ?_
  refine gw_get M hK hI hM.O i_Mo rfl 8 (by decide) f_Mo_32 rfl (Pv := fun v => v = .ref (q 8)) (fun x hx => ⟨_, _, hx, rfl, rfl⟩) d_Mo_seal_44 (fun v hv => ?_)
  subst hv
  refine lv_iload_n hx hb d_Mo_seal_47 rfl (lv_at hl 0 rfl) ?_
  refine gw_laldx M hK hI hM.k8 (vp_in_nI hs1 (by decide)) d_Mo_seal_48 ?_
  rw [show ((nI s1)).toNatClampNeg = s1 from (nI_clp (by omega))]
  refine lv_aload_n hx hb d_Mo_seal_49 rfl (lv_at hl 1 rfl) ?_
  refine lv_iload_n hx hb d_Mo_seal_50 rfl (lv_at hl 0 rfl) ?_
  refine gw_Vl (As := [.int (nI s1)]) (rest := [.long (fl s1)]) M hK hI (c_Mo_greatest l o q B 0 f0 l0 g0 fu fn fx fi fl hM (nI s1) s1 rfl hs1) k_Mo_greatest m_Mo_144 hM.O (ci := 6) rfl (fun x hx => ⟨_, hx⟩) rfl hl.1 rfl (Nat.le_of_ble_eq_true rfl) ⟨rfl, rfl, ⟨Nat.le_of_ble_eq_true rfl, Nat.le_of_ble_eq_true rfl⟩, ⟨Nat.le_of_ble_eq_true rfl, Nat.le_of_ble_eq_true rfl⟩⟩ d_Mo_seal_51 (fun x3 G9 H locs hw hI => ?_)
  obtain ⟨h_x3, hw⟩ := hw
  rw [hw] at hI
  subst h_x3
  refine W.lcmp hx hb d_Mo_seal_54 ?_
  refine lv_if_eq (tgt := 71) hx hb d_Mo_seal_55 (by decide) (fun c_55 => ?_) (fun c_55 => ?_)
  · have hr55 := c_55
    refine lv_iconst (v := (-1)) hx hb d_Mo_seal_71 (by decide) ?_
    exact gw_iret M hr hlo hI d_Mo_seal_72 (⟨Or.inl ⟨Or.inl ((lg_cmp_eq _ _).mp c_55), rfl, hM⟩, hf⟩)
  · refine lv_aload_n hx hb d_Mo_seal_58 rfl (lv_at hl 1 rfl) ?_
    refine gw_get M hK hI hM.O i_Mo rfl 17 (by decide) f_Mo_148 rfl (Pv := fun v => v = .int (nI f0)) (fun x hx => ⟨_, _, hx, rfl, rfl⟩) d_Mo_seal_59 (fun v hv => ?_)
    subst hv
    refine lv_aload_n hx hb d_Mo_seal_62 rfl (lv_at hl 1 rfl) ?_
    refine gw_get M hK hI hM.O i_Mo rfl 9 (by decide) f_Mo_36 rfl (Pv := fun v => v = .ref (q 9)) (fun x hx => ⟨_, _, hx, rfl, rfl⟩) d_Mo_seal_63 (fun v hv => ?_)
    subst hv
    refine lv_iload_n hx hb d_Mo_seal_66 rfl (lv_at hl 0 rfl) ?_
    refine gw_ialdx M hK hI hM.k9 (vp_in_nI hs1 (by decide)) d_Mo_seal_67 ?_
    rw [show ((nI s1)).toNatClampNeg = s1 from (nI_clp (by omega))]
    refine lv_icmp_le (tgt := 73) hx hb d_Mo_seal_68 (by decide) (fun c_68 => ?_) (fun c_68 => ?_)
    · have hgd : ¬ (fl s1 = gre (fx s1) ∨ ¬ nI f0 ≤ fi s1) := fun q9 => q9.elim (fun h9 => c_55 ((lg_cmp_eq _ _).mpr h9)) (fun h9 => h9 c_68)
      refine lv_aload_n hx hb d_Mo_seal_73 rfl (lv_at hl 1 rfl) ?_
      refine gw_get M hK hI hM.O i_Mo rfl 8 (by decide) f_Mo_32 rfl (Pv := fun v => v = .ref (q 8)) (fun x hx => ⟨_, _, hx, rfl, rfl⟩) d_Mo_seal_74 (fun v hv => ?_)
      subst hv
      refine lv_iload_n hx hb d_Mo_seal_77 rfl (lv_at hl 0 rfl) ?_
      refine lv_dup2_11 hx hb d_Mo_seal_78 rfl rfl ?_
      refine gw_laldx M hK hI hM.k8 (vp_in_nI hs1 (by decide)) d_Mo_seal_79 ?_
      rw [show ((nI s1)).toNatClampNeg = s1 from (nI_clp (by omega))]
      refine lv_lconst (v := 1) hx hb d_Mo_seal_80 (by decide) ?_
      refine lv_ladd hx hb d_Mo_seal_81 ?_
      refine lv_topl (fun x4 e_x4 => ?_)
      refine gw_lastx M hK hI hM.k8 (vp_in_nI hs1 (by decide)) d_Mo_seal_82 (fun H locs hI => ?_)
      rw [show ((nI s1)).toNatClampNeg = s1 from (nI_clp (by omega))] at hI
      rw [show x4 = (fl s1 + 1) from e_x4] at hI
      obtain ⟨G5, hE_G5⟩ : ∃ z9, gw_up G2 (q 8) (kx (.inl (D.2 3, 16, .inr (.inl (vp_updL fl s1 (fl s1 + 1)))))) = z9 := ⟨_, rfl⟩
      rw [hE_G5] at hI
      have hf : gw_fr (mown o q) G G5 := hf.tr (by rw [← hE_G5]; exact gw_fr.up (mown.k rfl))
      have hM : mdl D G5 o q B 0 f0 l0 g0 fu fn fx fi (vp_updL fl s1 (fl s1 + 1)) := by rw [← hE_G5]; exact hM.ar8 _
      refine lv_aload_n hx hb d_Mo_seal_83 rfl (lv_at hl 1 rfl) ?_
      refine gw_get M hK hI hM.O i_Mo rfl 9 (by decide) f_Mo_36 rfl (Pv := fun v => v = .ref (q 9)) (fun x hx => ⟨_, _, hx, rfl, rfl⟩) d_Mo_seal_84 (fun v hv => ?_)
      subst hv
      refine lv_iload_n hx hb d_Mo_seal_87 rfl (lv_at hl 0 rfl) ?_
      refine lv_aload_n hx hb d_Mo_seal_88 rfl (lv_at hl 1 rfl) ?_
      refine gw_get M hK hI hM.O i_Mo rfl 9 (by decide) f_Mo_36 rfl (Pv := fun v => v = .ref (q 9)) (fun x hx => ⟨_, _, hx, rfl, rfl⟩) d_Mo_seal_89 (fun v hv => ?_)
      subst hv
      refine lv_iload_n hx hb d_Mo_seal_92 rfl (lv_at hl 0 rfl) ?_
      refine gw_ialdx M hK hI hM.k9 (vp_in_nI hs1 (by decide)) d_Mo_seal_93 ?_
      rw [show ((nI s1)).toNatClampNeg = s1 from (nI_clp (by omega))]
      refine lv_aload_n hx hb d_Mo_seal_94 rfl (lv_at hl 1 rfl) ?_
      refine gw_get M hK hI hM.O i_Mo rfl 17 (by decide) f_Mo_148 rfl (Pv := fun v => v = .int (nI f0)) (fun x hx => ⟨_, _, hx, rfl, rfl⟩) d_Mo_seal_95 (fun v hv => ?_)
      subst hv
      refine lv_isub hx hb d_Mo_seal_98 ?_
      refine lv_topi (fun x6 e_x6 => ?_)
      refine gw_iastx M hK hI hM.k9 (vp_in_nI hs1 (by decide)) d_Mo_seal_99 (fun H locs hI => ?_)
      rw [show ((nI s1)).toNatClampNeg = s1 from (nI_clp (by omega))] at hI
      rw [show x6 = (fi s1 - nI f0) from e_x6] at hI
      obtain ⟨G7, hE_G7⟩ : ∃ z9, gw_up G5 (q 9) (kx (.inl (D.2 0, 16, .inl (upd fi s1 (fi s1 - nI f0))))) = z9 := ⟨_, rfl⟩
      rw [hE_G7] at hI
      have hf : gw_fr (mown o q) G G7 := hf.tr (by rw [← hE_G7]; exact gw_fr.up (mown.k rfl))
      have hM : mdl D G7 o q B 0 f0 l0 g0 fu fn fx (upd fi s1 (fi s1 - nI f0)) (vp_updL fl s1 (fl s1 + 1)) := by rw [← hE_G7]; exact hM.ar9 _
      refine lv_aload_n hx hb d_Mo_seal_100 rfl (lv_at hl 1 rfl) ?_
      refine lv_iconst (v := 0) hx hb d_Mo_seal_101 (by decide) ?_
      refine gw_put M hK hI hM.O i_Mo t_Mo tk_Mo n_Mo rfl 19 (by decide) f_Mo_151 rfl rfl rfl (kx (mo_ob q 0 (nI f0) (nI 0) (nI g0))) (fun x hx => ⟨_, hx, Nat.le_of_ble_eq_true rfl, rfl⟩) d_Mo_seal_102 (fun H locs hI => ?_)
      obtain ⟨G8, hE_G8⟩ : ∃ z9, gw_up G7 o (kx (mo_ob q 0 (nI f0) (nI 0) (nI g0))) = z9 := ⟨_, rfl⟩
      rw [hE_G8] at hI
      have hf : gw_fr (mown o q) G G8 := hf.tr (by rw [← hE_G8]; exact gw_fr.up (Or.inl rfl))
      have hM : mdl D G8 o q B 0 f0 0 g0 fu fn fx (upd fi s1 (fi s1 - nI f0)) (vp_updL fl s1 (fl s1 + 1)) := by rw [← hE_G8]; exact hM.ob hM.f200 (Nat.zero_le _) hM.g204
      refine lv_iconst (v := 0) hx hb d_Mo_seal_105 (by decide) ?_
      refine lv_istore (lv' := [(4, .int 0), (3, .int (nI s1)), (0, .ref o), (1, .int n1), (2, .int a2)]) hx hb d_Mo_seal_106 hl (by decide) rfl (fun ls hl => ?_)
      have L_108 : ∀ (n9 : Nat) (k : Nat) (y4 : Int32) (Gk : gw_G) (H : Heap) (locs : List Loc) (ls : Array Slot), k ≤ 4 → y4 = nI k → mdl D Gk o q B 0 f0 k g0 fu fn fx (upd fi s1 (fi s1 - nI f0)) (vp_updL fl s1 (fl s1 + 1)) → gw_fr (mown o q) G Gk → 4 - k < n9 → gw_I D Hs Gk s.heap H locs → lv_has ls 7 [(4, .int y4), (0, .ref o), (1, .int n1), (2, .int a2), (3, .int (nI s1))] → W p l e rm_Mo_sealf s m args below meth c H locs 0 0 (MQ below (gw_Qi D Hs (fun r G1 => (((fl s1 = gre (fx s1) ∨ ¬ nI f0 ≤ fi s1) ∧ r = -1 ∧ mdl D G1 o q B 0 f0 l0 g0 fu fn fx fi fl) ∨ (¬ (fl s1 = gre (fx s1) ∨ ¬ nI f0 ≤ fi s1) ∧ r = nI (f0 + 34 + (4 - (f0 + 2) % 4) % 4) ∧ mdl D G1 o q B 0 f0 (f0 + 34 + (4 - (f0 + 2) % 4) % 4) g0 fu fn fx (upd fi s1 (fi s1 - nI f0)) (vp_updL fl s1 (fl s1 + 1)))) ∧ gw_fr (mown o q) G G1)) args s 0 0 (gw_A Hs)) (F0 m 108 ls []) := by
        intro n9
        induction n9 with
        | zero =>
          intro k y4 Gk H locs ls bk hk hM hf hm hI hl
          exact absurd hm (Nat.not_lt_zero _)
        | succ n9 ih_108 =>
          intro k y4 Gk H locs ls bk hk hM hf hm_108 hI hl
          refine lv_iload hx hb d_Mo_seal_108 (lv_at hl 0 rfl) ?_
          refine lv_iconst (v := 4) hx hb d_Mo_seal_110 (by decide) ?_
          refine lv_icmp_ge (tgt := 138) hx hb d_Mo_seal_111 (by decide) (fun c_111 => ?_) (fun c_111 => ?_)
          · have hend : 4 = k := (Nat.le_antisymm bk (nb_ge (n := 4) hk c_111 (by omega) (by omega))).symm
            subst hend
            have hM := hM
            refine lv_iconst (v := 0) hx hb d_Mo_seal_138 (by decide) ?_
            refine lv_istore (lv' := [(4, .int 0), (0, .ref o), (1, .int n1), (2, .int a2), (3, .int (nI s1))]) hx hb d_Mo_seal_139 hl (by decide) rfl (fun ls hl => ?_)
            have L_141 : ∀ (n9 : Nat) (j : Nat) (y4 : Int32) (Gk : gw_G) (H : Heap) (locs : List Loc) (ls : Array Slot), j ≤ 12 → y4 = nI j → mdl D Gk o q B 0 f0 (4 + j) g0 fu fn fx (upd fi s1 (fi s1 - nI f0)) (vp_updL fl s1 (fl s1 + 1)) → gw_fr (mown o q) G Gk → 12 - j < n9 → gw_I D Hs Gk s.heap H locs → lv_has ls 7 [(4, .int y4), (0, .ref o), (1, .int n1), (2, .int a2), (3, .int (nI s1))] → W p l e rm_Mo_sealf s m args below meth c H locs 0 0 (MQ below (gw_Qi D Hs (fun r G1 => (((fl s1 = gre (fx s1) ∨ ¬ nI f0 ≤ fi s1) ∧ r = -1 ∧ mdl D G1 o q B 0 f0 l0 g0 fu fn fx fi fl) ∨ (¬ (fl s1 = gre (fx s1) ∨ ¬ nI f0 ≤ fi s1) ∧ r = nI (f0 + 34 + (4 - (f0 + 2) % 4) % 4) ∧ mdl D G1 o q B 0 f0 (f0 + 34 + (4 - (f0 + 2) % 4) % 4) g0 fu fn fx (upd fi s1 (fi s1 - nI f0)) (vp_updL fl s1 (fl s1 + 1)))) ∧ gw_fr (mown o q) G G1)) args s 0 0 (gw_A Hs)) (F0 m 141 ls []) := by
              intro n9
              induction n9 with
              | zero =>
                intro j y4 Gk H locs ls bj hj hM hf hm hI hl
                exact absurd hm (Nat.not_lt_zero _)
              | succ n9 ih_141 =>
                intro j y4 Gk H locs ls bj hj hM hf hm_141 hI hl
                refine lv_iload hx hb d_Mo_seal_141 (lv_at hl 0 rfl) ?_
                refine lv_bipush (v := 12) hx hb d_Mo_seal_143 (by decide) ?_
                refine lv_icmp_ge (tgt := 184) hx hb d_Mo_seal_145 (by decide) (fun c_145 => ?_) (fun c_145 => ?_)
                · have hend : 12 = j := (Nat.le_antisymm bj (nb_ge (n := 12) hj c_145 (by omega) (by omega))).symm
                  subst hend
                  have hM := hM
                  refine lv_iconst (v := 0) hx hb d_Mo_seal_184 (by decide) ?_
                  refine lv_istore (lv' := [(4, .int 0), (0, .ref o), (1, .int n1), (2, .int a2), (3, .int (nI s1))]) hx hb d_Mo_seal_185 hl (by decide) rfl (fun ls hl => ?_)
                  have L_187 : ∀ (n9 : Nat) (i : Nat) (y4 : Int32) (Gk : gw_G) (H : Heap) (locs : List Loc) (ls : Array Slot), i ≤ f0 → y4 = nI i → mdl D Gk o q B 0 f0 (16 + i) g0 fu fn fx (upd fi s1 (fi s1 - nI f0)) (vp_updL fl s1 (fl s1 + 1)) → gw_fr (mown o q) G Gk → f0 - i < n9 → gw_I D Hs Gk s.heap H locs → lv_has ls 7 [(4, .int y4), (0, .ref o), (1, .int n1), (2, .int a2), (3, .int (nI s1))] → W p l e rm_Mo_sealf s m args below meth c H locs 0 0 (MQ below (gw_Qi D Hs (fun r G1 => (((fl s1 = gre (fx s1) ∨ ¬ nI f0 ≤ fi s1) ∧ r = -1 ∧ mdl D G1 o q B 0 f0 l0 g0 fu fn fx fi fl) ∨ (¬ (fl s1 = gre (fx s1) ∨ ¬ nI f0 ≤ fi s1) ∧ r = nI (f0 + 34 + (4 - (f0 + 2) % 4) % 4) ∧ mdl D G1 o q B 0 f0 (f0 + 34 + (4 - (f0 + 2) % 4) % 4) g0 fu fn fx (upd fi s1 (fi s1 - nI f0)) (vp_updL fl s1 (fl s1 + 1)))) ∧ gw_fr (mown o q) G G1)) args s 0 0 (gw_A Hs)) (F0 m 187 ls []) := by
                    intro n9
                    induction n9 with
                    | zero =>
                      intro i y4 Gk H locs ls bi hi hM hf hm hI hl
                      exact absurd hm (Nat.not_lt_zero _)
                    | succ n9 ih_187 =>
                      intro i y4 Gk H locs ls bi hi hM hf hm_187 hI hl
                      refine lv_iload hx hb d_Mo_seal_187 (lv_at hl 0 rfl) ?_
                      refine lv_aload_n hx hb d_Mo_seal_189 rfl (lv_at hl 1 rfl) ?_
                      refine gw_get M hK hI hM.O i_Mo rfl 17 (by decide) f_Mo_148 rfl (Pv := fun v => v = .int (nI f0)) (fun x hx => ⟨_, _, hx, rfl, rfl⟩) d_Mo_seal_190 (fun v hv => ?_)
                      subst hv
                      refine lv_icmp_ge (tgt := 213) hx hb d_Mo_seal_193 (by decide) (fun c_193 => ?_) (fun c_193 => ?_)
                      · have hend : f0 = i := (Nat.le_antisymm bi (nb_ge (n := f0) hi c_193 (by omega) (by omega))).symm
                        subst hend
                        have hM := hM
                        refine lv_iconst (v := 0) hx hb d_Mo_seal_213 (by decide) ?_
                        refine lv_istore (lv' := [(4, .int 0), (0, .ref o), (1, .int n1), (2, .int a2), (3, .int (nI s1))]) hx hb d_Mo_seal_214 hl (by decide) rfl (fun ls hl => ?_)
                        have L_216 : ∀ (n9 : Nat) (pd : Nat) (y4 : Int32) (Gk : gw_G) (H : Heap) (locs : List Loc) (ls : Array Slot), pd ≤ (4 - (f0 + 2) % 4) % 4 → y4 = nI pd → mdl D Gk o q B 0 f0 (16 + f0 + pd) g0 fu fn fx (upd fi s1 (fi s1 - nI f0)) (vp_updL fl s1 (fl s1 + 1)) → gw_fr (mown o q) G Gk → (4 - (f0 + 2) % 4) % 4 - pd < n9 → gw_I D Hs Gk s.heap H locs → lv_has ls 7 [(4, .int y4), (0, .ref o), (1, .int n1), (2, .int a2), (3, .int (nI s1))] → W p l e rm_Mo_sealf s m args below meth c H locs 0 0 (MQ below (gw_Qi D Hs (fun r G1 => (((fl s1 = gre (fx s1) ∨ ¬ nI f0 ≤ fi s1) ∧ r = -1 ∧ mdl D G1 o q B 0 f0 l0 g0 fu fn fx fi fl) ∨ (¬ (fl s1 = gre (fx s1) ∨ ¬ nI f0 ≤ fi s1) ∧ r = nI (f0 + 34 + (4 - (f0 + 2) % 4) % 4) ∧ mdl D G1 o q B 0 f0 (f0 + 34 + (4 - (f0 + 2) % 4) % 4) g0 fu fn fx (upd fi s1 (fi s1 - nI f0)) (vp_updL fl s1 (fl s1 + 1)))) ∧ gw_fr (mown o q) G G1)) args s 0 0 (gw_A Hs)) (F0 m 216 ls []) := by
                          intro n9
                          induction n9 with
                          | zero =>
                            intro pd y4 Gk H locs ls bp hp hM hf hm hI hl
                            exact absurd hm (Nat.not_lt_zero _)
                          | succ n9 ih_216 =>
                            intro pd y4 Gk H locs ls bp hp hM hf hm_216 hI hl
                            refine lv_aload_n hx hb d_Mo_seal_216 rfl (lv_at hl 1 rfl) ?_
                            refine gw_get M hK hI hM.O i_Mo rfl 19 (by decide) f_Mo_151 rfl (Pv := fun v => v = .int (nI (16 + f0 + pd))) (fun x hx => ⟨_, _, hx, rfl, rfl⟩) d_Mo_seal_217 (fun v hv => ?_)
                            subst hv
                            refine lv_iconst (v := 2) hx hb d_Mo_seal_220 (by decide) ?_
                            refine lv_iadd hx hb d_Mo_seal_221 ?_
                            refine lv_iconst (v := 4) hx hb d_Mo_seal_222 (by decide) ?_
                            refine lv_irem hx hb d_Mo_seal_223 (by decide) ?_
                            refine lv_if_eq (tgt := 239) hx hb d_Mo_seal_224 (by decide) (fun c_224 => ?_) (fun c_224 => ?_)
                            · have e9 : nI (16 + f0 + pd) + 2 - (nI (16 + f0 + pd) + 2) / 4 * 4 = nI ((16 + f0 + pd + 2) % 4) := nb_rem (nb_add rfl 2) 4
                              have h8 : (16 + f0 + pd + 2) % 4 = 0 := pk_nin (b := 0) (by omega) (by decide) (e9.symm.trans c_224)
                              have hp0 : pd = (4 - (f0 + 2) % 4) % 4 := by omega
                              refine lv_aload_n hx hb d_Mo_seal_239 rfl (lv_at hl 1 rfl) ?_
                              refine lv_iload hx hb d_Mo_seal_240 (lv_at hl 0 rfl) ?_
                              refine gw_Vv (As := [.int y4]) (rest := []) M hK hI (c_Mo_put l o q B 0 f0 (16 + f0 + pd) g0 fu fn fx (upd fi s1 (fi s1 - nI f0)) (vp_updL fl s1 (fl s1 + 1)) hM y4 (by rw [hp]; exact by8_n (by omega)) (by omega)) k_Mo_put m_Mo_154 hM.O (ci := 6) rfl (fun x hx => ⟨_, hx⟩) rfl hl.1 rfl (Nat.le_of_ble_eq_true rfl) ⟨rfl, rfl, ⟨Nat.le_of_ble_eq_true rfl, Nat.le_of_ble_eq_true rfl⟩, ⟨Nat.le_of_ble_eq_true rfl, Nat.le_of_ble_eq_true rfl⟩⟩ d_Mo_seal_242 (fun G9 H locs hw hI => ?_)
                              obtain ⟨hM, hfz⟩ := hw
                              have hf := hf.tr hfz
                              refine lv_aload_n hx hb d_Mo_seal_245 rfl (lv_at hl 1 rfl) ?_
                              refine lv_iload_n hx hb d_Mo_seal_246 rfl (lv_at hl 3 rfl) ?_
                              refine gw_Vv (As := [.int a2]) (rest := []) M hK hI (c_Mo_put l o q B 0 f0 (16 + f0 + pd + 1) g0 fu fn fx (upd fi s1 (fi s1 - nI f0)) (vp_updL fl s1 (fl s1 + 1)) hM a2 h_a2 (by omega)) k_Mo_put m_Mo_154 hM.O (ci := 6) rfl (fun x hx => ⟨_, hx⟩) rfl hl.1 rfl (Nat.le_of_ble_eq_true rfl) ⟨rfl, rfl, ⟨Nat.le_of_ble_eq_true rfl, Nat.le_of_ble_eq_true rfl⟩, ⟨Nat.le_of_ble_eq_true rfl, Nat.le_of_ble_eq_true rfl⟩⟩ d_Mo_seal_247 (fun G10 H locs hw hI => ?_)
                              obtain ⟨hM, hfz⟩ := hw
                              have hf := hf.tr hfz
                              refine lv_aload_n hx hb d_Mo_seal_250 rfl (lv_at hl 1 rfl) ?_
                              refine gw_get M hK hI hM.O i_Mo rfl 19 (by decide) f_Mo_151 rfl (Pv := fun v => v = .int (nI (16 + f0 + pd + 1 + 1))) (fun x hx => ⟨_, _, hx, rfl, rfl⟩) d_Mo_seal_251 (fun v hv => ?_)
                              subst hv
                              refine lv_bipush (v := 16) hx hb d_Mo_seal_254 (by decide) ?_
                              refine lv_isub hx hb d_Mo_seal_256 ?_
                              refine lv_topi (fun x11 e_x11 => ?_)
                              refine lv_istore (lv' := [(5, .int x11), (4, .int y4), (0, .ref o), (1, .int n1), (2, .int a2), (3, .int (nI s1))]) hx hb d_Mo_seal_257 hl (by decide) rfl (fun ls hl => ?_)
                              have hb5 : x11 = nI (f0 + pd + 2) := by rw [e_x11, show f0 + pd + 2 = 16 + f0 + pd + 1 + 1 - 16 from by omega]; exact nb_sub rfl 16
                              refine lv_aload_n hx hb d_Mo_seal_259 rfl (lv_at hl 2 rfl) ?_
                              refine lv_iload_n hx hb d_Mo_seal_260 rfl (lv_at hl 5 rfl) ?_
                              refine lv_iload hx hb d_Mo_seal_261 (lv_at hl 0 rfl) ?_
                              refine gw_Vv (As := [.int (nI s1), .int x11]) (rest := []) M hK hI (c_Mo_turnBody l o q B 0 f0 (16 + f0 + pd + 1 + 1) g0 fu fn fx (upd fi s1 (fi s1 - nI f0)) (vp_updL fl s1 (fl s1 + 1)) hM (nI s1) s1 rfl hs1 x11 (f0 + pd + 2) hb5 (by omega)) k_Mo_turnBody m_Mo_157 hM.O (ci := 6) rfl (fun x hx => ⟨_, hx⟩) rfl hl.1 rfl (Nat.le_of_ble_eq_true rfl) ⟨rfl, rfl, ⟨Nat.le_of_ble_eq_true rfl, Nat.le_of_ble_eq_true rfl⟩, ⟨Nat.le_of_ble_eq_true rfl, Nat.le_of_ble_eq_true rfl⟩⟩ d_Mo_seal_263 (fun G9 H locs hw hI => ?_)
                              rw [hw] at hI
                              refine lv_aload_n hx hb d_Mo_seal_266 rfl (lv_at hl 2 rfl) ?_
                              refine lv_iload_n hx hb d_Mo_seal_267 rfl (lv_at hl 5 rfl) ?_
                              refine lv_aload_n hx hb d_Mo_seal_268 rfl (lv_at hl 2 rfl) ?_
                              refine gw_get M hK hI hM.O i_Mo rfl 8 (by decide) f_Mo_32 rfl (Pv := fun v => v = .ref (q 8)) (fun x hx => ⟨_, _, hx, rfl, rfl⟩) d_Mo_seal_269 (fun v hv => ?_)
                              subst hv
                              refine lv_iload_n hx hb d_Mo_seal_272 rfl (lv_at hl 5 rfl) ?_
                              refine gw_laldx M hK hI hM.k8 (vp_in_nI hs1 (by decide)) d_Mo_seal_273 ?_
                              rw [show ((nI s1)).toNatClampNeg = s1 from (nI_clp (by omega))]
                              refine lv_iload hx hb d_Mo_seal_274 (lv_at hl 0 rfl) ?_
                              refine gw_Vv (As := [.int (nI s1), .long ((vp_updL fl s1 (fl s1 + 1)) s1), .int x11]) (rest := []) M hK hI (c_Mo_makeSeal l o q B 0 f0 (16 + f0 + pd + 1 + 1) g0 fu fn fx (upd fi s1 (fi s1 - nI f0)) (vp_updL fl s1 (fl s1 + 1)) hM (nI s1) s1 rfl hs1 ((vp_updL fl s1 (fl s1 + 1)) s1) x11 (f0 + pd + 2) hb5 (by omega)) k_Mo_makeSeal m_Mo_160 hM.O (ci := 6) rfl (fun x hx => ⟨_, hx⟩) rfl hl.1 rfl (Nat.le_of_ble_eq_true rfl) ⟨rfl, rfl, ⟨Nat.le_of_ble_eq_true rfl, Nat.le_of_ble_eq_true rfl⟩, ⟨Nat.le_of_ble_eq_true rfl, Nat.le_of_ble_eq_true rfl⟩⟩ d_Mo_seal_276 (fun G9 H locs hw hI => ?_)
                              rw [hw] at hI
                              refine lv_iconst (v := 0) hx hb d_Mo_seal_279 (by decide) ?_
                              refine lv_istore (lv' := [(6, .int 0), (5, .int x11), (4, .int y4), (0, .ref o), (1, .int n1), (2, .int a2), (3, .int (nI s1))]) hx hb d_Mo_seal_280 hl (by decide) rfl (fun ls hl => ?_)
                              have L_282 : ∀ (n9 : Nat) (k2 : Nat) (y6 : Int32) (Gk : gw_G) (H : Heap) (locs : List Loc) (ls : Array Slot), k2 ≤ 16 → y6 = nI k2 → mdl D Gk o q B 0 f0 (16 + f0 + pd + 2 + k2) g0 fu fn fx (upd fi s1 (fi s1 - nI f0)) (vp_updL fl s1 (fl s1 + 1)) → gw_fr (mown o q) G Gk → 16 - k2 < n9 → gw_I D Hs Gk s.heap H locs → lv_has ls 7 [(6, .int y6), (0, .ref o)] → W p l e rm_Mo_sealf s m args below meth c H locs 0 0 (MQ below (gw_Qi D Hs (fun r G1 => (((fl s1 = gre (fx s1) ∨ ¬ nI f0 ≤ fi s1) ∧ r = -1 ∧ mdl D G1 o q B 0 f0 l0 g0 fu fn fx fi fl) ∨ (¬ (fl s1 = gre (fx s1) ∨ ¬ nI f0 ≤ fi s1) ∧ r = nI (f0 + 34 + (4 - (f0 + 2) % 4) % 4) ∧ mdl D G1 o q B 0 f0 (f0 + 34 + (4 - (f0 + 2) % 4) % 4) g0 fu fn fx (upd fi s1 (fi s1 - nI f0)) (vp_updL fl s1 (fl s1 + 1)))) ∧ gw_fr (mown o q) G G1)) args s 0 0 (gw_A Hs)) (F0 m 282 ls []) := by
                                intro n9
                                induction n9 with
                                | zero =>
                                  intro k2 y6 Gk H locs ls bk2 hk2 hM hf hm hI hl
                                  exact absurd hm (Nat.not_lt_zero _)
                                | succ n9 ih_282 =>
                                  intro k2 y6 Gk H locs ls bk2 hk2 hM hf hm_282 hI hl
                                  refine lv_iload hx hb d_Mo_seal_282 (lv_at hl 0 rfl) ?_
                                  refine lv_bipush (v := 16) hx hb d_Mo_seal_284 (by decide) ?_
                                  refine lv_icmp_ge (tgt := 306) hx hb d_Mo_seal_286 (by decide) (fun c_286 => ?_) (fun c_286 => ?_)
                                  · have hend : 16 = k2 := (Nat.le_antisymm bk2 (nb_ge (n := 16) hk2 c_286 (by omega) (by omega))).symm
                                    subst hend
                                    have hM := hM
                                    have e10 : 16 + f0 + pd + 2 + 16 = f0 + 34 + (4 - (f0 + 2) % 4) % 4 := by omega
                                    rw [e10] at hM
                                    refine lv_aload_n hx hb d_Mo_seal_306 rfl (lv_at hl 1 rfl) ?_
                                    refine gw_get M hK hI hM.O i_Mo rfl 19 (by decide) f_Mo_151 rfl (Pv := fun v => v = .int (nI (f0 + 34 + (4 - (f0 + 2) % 4) % 4))) (fun x hx => ⟨_, _, hx, rfl, rfl⟩) d_Mo_seal_307 (fun v hv => ?_)
                                    subst hv
                                    exact gw_iret M hr hlo hI d_Mo_seal_310 (⟨Or.inr ⟨hgd, rfl, hM⟩, hf⟩)
                                  · have lk2 : k2 < 16 := nb_lt (n := 16) hk2 c_286 (by omega) (by omega)
                                    refine lv_aload_n hx hb d_Mo_seal_289 rfl (lv_at hl 1 rfl) ?_
                                    refine lv_aload_n hx hb d_Mo_seal_290 rfl (lv_at hl 1 rfl) ?_
                                    refine gw_get M hK hI hM.O i_Mo rfl 29 (by decide) f_Mo_87 rfl (Pv := fun v => v = .ref (q 29)) (fun x hx => ⟨_, _, hx, rfl, rfl⟩) d_Mo_seal_291 (fun v hv => ?_)
                                    subst hv
                                    refine lv_iload hx hb d_Mo_seal_294 (lv_at hl 0 rfl) ?_
                                    refine gw_iald M hK hI hM.k29 (nb_in hk2 lk2) d_Mo_seal_296 (fun x14 h_x14 => ?_)
                                    refine gw_Vv (As := [.int x14]) (rest := []) M hK hI (c_Mo_put l o q B 0 f0 (16 + f0 + pd + 2 + k2) g0 fu fn fx (upd fi s1 (fi s1 - nI f0)) (vp_updL fl s1 (fl s1 + 1)) hM x14 h_x14 (by omega)) k_Mo_put m_Mo_154 hM.O (ci := 6) rfl (fun x hx => ⟨_, hx⟩) rfl hl.1 rfl (Nat.le_of_ble_eq_true rfl) ⟨rfl, rfl, ⟨Nat.le_of_ble_eq_true rfl, Nat.le_of_ble_eq_true rfl⟩, ⟨Nat.le_of_ble_eq_true rfl, Nat.le_of_ble_eq_true rfl⟩⟩ d_Mo_seal_297 (fun G15 H locs hw hI => ?_)
                                    obtain ⟨hM, hfz⟩ := hw
                                    have hf := hf.tr hfz
                                    obtain ⟨x16, e_x16⟩ : ∃ ww9 : Int32, ww9 = y6 + 1 := ⟨_, rfl⟩
                                    refine lv_iinc (v := x16) (lv' := [(6, .int x16), (0, .ref o)]) hx hb d_Mo_seal_300 hl (k := 0) rfl (by rw [e_x16]; rfl) (by decide) rfl (fun ls hl => ?_)
                                    refine lv_goto (tgt := 282) hx hb d_Mo_seal_303 (by decide) ?_
                                    exact ih_282 (k2 + 1) x16 G15 _ _ _ lk2 (nb_s e_x16 hk2) hM hf (z_m hm_282 lk2) hI (lv_sub hl [0, 1] rfl)
                              exact L_282 _ 0 0 G10 _ _ _ (Nat.zero_le _) rfl hM hf (Nat.lt_succ_self _) hI (lv_sub hl [0, 3] rfl)
                            · have e9 : nI (16 + f0 + pd) + 2 - (nI (16 + f0 + pd) + 2) / 4 * 4 = nI ((16 + f0 + pd + 2) % 4) := nb_rem (nb_add rfl 2) 4
                              have h8 : ¬ (16 + f0 + pd + 2) % 4 = 0 := fun q9 => c_224 (e9.trans (by rw [q9]; rfl))
                              have lp : pd < (4 - (f0 + 2) % 4) % 4 := by omega
                              obtain ⟨x17, e_x17⟩ : ∃ ww9 : Int32, ww9 = y4 + 1 := ⟨_, rfl⟩
                              refine lv_iinc (v := x17) (lv' := [(4, .int x17), (0, .ref o), (1, .int n1), (2, .int a2), (3, .int (nI s1))]) hx hb d_Mo_seal_227 hl (k := 0) rfl (by rw [e_x17]; rfl) (by decide) rfl (fun ls hl => ?_)
                              refine lv_aload_n hx hb d_Mo_seal_230 rfl (lv_at hl 1 rfl) ?_
                              refine lv_iload hx hb d_Mo_seal_231 (lv_at hl 0 rfl) ?_
                              refine gw_Vv (As := [.int x17]) (rest := []) M hK hI (c_Mo_put l o q B 0 f0 (16 + f0 + pd) g0 fu fn fx (upd fi s1 (fi s1 - nI f0)) (vp_updL fl s1 (fl s1 + 1)) hM x17 (by rw [nb_s e_x17 hp]; exact by8_n (by omega)) (by omega)) k_Mo_put m_Mo_154 hM.O (ci := 6) rfl (fun x hx => ⟨_, hx⟩) rfl hl.1 rfl (Nat.le_of_ble_eq_true rfl) ⟨rfl, rfl, ⟨Nat.le_of_ble_eq_true rfl, Nat.le_of_ble_eq_true rfl⟩, ⟨Nat.le_of_ble_eq_true rfl, Nat.le_of_ble_eq_true rfl⟩⟩ d_Mo_seal_233 (fun G18 H locs hw hI => ?_)
                              obtain ⟨hM, hfz⟩ := hw
                              have hf := hf.tr hfz
                              refine lv_goto (tgt := 216) hx hb d_Mo_seal_236 (by decide) ?_
                              exact ih_216 (pd + 1) x17 G18 _ _ _ lp (nb_s e_x17 hp) hM hf (by have hm := hm_216; omega) hI (lv_sub hl [0, 1, 2, 3, 4] rfl)
                        exact L_216 _ 0 0 Gk _ _ _ (Nat.zero_le _) rfl hM hf (Nat.lt_succ_self _) hI (lv_sub hl [0, 1, 2, 3, 4] rfl)
                      · have li : i < f0 := nb_lt (n := f0) hi c_193 (by omega) (by omega)
                        refine lv_aload_n hx hb d_Mo_seal_196 rfl (lv_at hl 1 rfl) ?_
                        refine lv_aload_n hx hb d_Mo_seal_197 rfl (lv_at hl 1 rfl) ?_
                        refine gw_get M hK hI hM.O i_Mo rfl 16 (by decide) f_Mo_57 rfl (Pv := fun v => v = .ref (q 16)) (fun x hx => ⟨_, _, hx, rfl, rfl⟩) d_Mo_seal_198 (fun v hv => ?_)
                        subst hv
                        refine lv_iload hx hb d_Mo_seal_201 (lv_at hl 0 rfl) ?_
                        refine gw_iald M hK hI hM.k16 (nb_in hi (by omega)) d_Mo_seal_203 (fun x19 h_x19 => ?_)
                        refine gw_Vv (As := [.int x19]) (rest := []) M hK hI (c_Mo_put l o q B 0 f0 (16 + i) g0 fu fn fx (upd fi s1 (fi s1 - nI f0)) (vp_updL fl s1 (fl s1 + 1)) hM x19 h_x19 (by omega)) k_Mo_put m_Mo_154 hM.O (ci := 6) rfl (fun x hx => ⟨_, hx⟩) rfl hl.1 rfl (Nat.le_of_ble_eq_true rfl) ⟨rfl, rfl, ⟨Nat.le_of_ble_eq_true rfl, Nat.le_of_ble_eq_true rfl⟩, ⟨Nat.le_of_ble_eq_true rfl, Nat.le_of_ble_eq_true rfl⟩⟩ d_Mo_seal_204 (fun G20 H locs hw hI => ?_)
                        obtain ⟨hM, hfz⟩ := hw
                        have hf := hf.tr hfz
                        obtain ⟨x21, e_x21⟩ : ∃ ww9 : Int32, ww9 = y4 + 1 := ⟨_, rfl⟩
                        refine lv_iinc (v := x21) (lv' := [(4, .int x21), (0, .ref o), (1, .int n1), (2, .int a2), (3, .int (nI s1))]) hx hb d_Mo_seal_207 hl (k := 0) rfl (by rw [e_x21]; rfl) (by decide) rfl (fun ls hl => ?_)
                        refine lv_goto (tgt := 187) hx hb d_Mo_seal_210 (by decide) ?_
                        exact ih_187 (i + 1) x21 G20 _ _ _ li (nb_s e_x21 hi) hM hf (z_m hm_187 li) hI (lv_sub hl [0, 1, 2, 3, 4] rfl)
                  exact L_187 _ 0 0 Gk _ _ _ (Nat.zero_le _) rfl hM hf (Nat.lt_succ_self _) hI (lv_sub hl [0, 1, 2, 3, 4] rfl)
                · have lj : j < 12 := nb_lt (n := 12) hj c_145 (by omega) (by omega)
                  refine lv_aload_n hx hb d_Mo_seal_148 rfl (lv_at hl 1 rfl) ?_
                  refine lv_aload_n hx hb d_Mo_seal_149 rfl (lv_at hl 1 rfl) ?_
                  refine gw_get M hK hI hM.O i_Mo rfl 8 (by decide) f_Mo_32 rfl (Pv := fun v => v = .ref (q 8)) (fun x hx => ⟨_, _, hx, rfl, rfl⟩) d_Mo_seal_150 (fun v hv => ?_)
                  subst hv
                  refine lv_iload_n hx hb d_Mo_seal_153 rfl (lv_at hl 4 rfl) ?_
                  refine gw_laldx M hK hI hM.k8 (vp_in_nI hs1 (by decide)) d_Mo_seal_154 ?_
                  rw [show ((nI s1)).toNatClampNeg = s1 from (nI_clp (by omega))]
                  refine lv_iload hx hb d_Mo_seal_155 (lv_at hl 0 rfl) ?_
                  refine lv_iconst (v := 4) hx hb d_Mo_seal_157 (by decide) ?_
                  refine lv_icmp_ge (tgt := 168) hx hb d_Mo_seal_158 (by decide) (fun c_158 => ?_) (fun c_158 => ?_)
                  · refine lv_iload hx hb d_Mo_seal_168 (lv_at hl 0 rfl) ?_
                    refine lv_iconst (v := 4) hx hb d_Mo_seal_170 (by decide) ?_
                    refine lv_isub hx hb d_Mo_seal_171 ?_
                    refine gw_Si (As := [.long ((vp_updL fl s1 (fl s1 + 1)) s1), .int (y4 - (4 : Int32))]) (rest := [.ref o]) M hK hI (c_Mo_byteOf l ((vp_updL fl s1 (fl s1 + 1)) s1) (y4 - (4 : Int32))) k_Mo_byteOf m_Mo_119 rfl hl.1 rfl (Nat.le_of_ble_eq_true rfl) ⟨rfl, rfl, ⟨Nat.le_of_ble_eq_true rfl, Nat.le_of_ble_eq_true rfl⟩, ⟨Nat.le_of_ble_eq_true rfl, Nat.le_of_ble_eq_true rfl⟩⟩ d_Mo_seal_172 (fun x22 G9 H locs hw hI => ?_)
                    obtain ⟨h_x22, hw⟩ := hw
                    rw [hw] at hI
                    refine gw_Vv (As := [.int x22]) (rest := []) M hK hI (c_Mo_put l o q B 0 f0 (4 + j) g0 fu fn fx (upd fi s1 (fi s1 - nI f0)) (vp_updL fl s1 (fl s1 + 1)) hM x22 h_x22 (by omega)) k_Mo_put m_Mo_154 hM.O (ci := 6) rfl (fun x hx => ⟨_, hx⟩) rfl hl.1 rfl (Nat.le_of_ble_eq_true rfl) ⟨rfl, rfl, ⟨Nat.le_of_ble_eq_true rfl, Nat.le_of_ble_eq_true rfl⟩, ⟨Nat.le_of_ble_eq_true rfl, Nat.le_of_ble_eq_true rfl⟩⟩ d_Mo_seal_175 (fun G23 H locs hw hI => ?_)
                    obtain ⟨hM, hfz⟩ := hw
                    have hf := hf.tr hfz
                    obtain ⟨x24, e_x24⟩ : ∃ ww9 : Int32, ww9 = y4 + 1 := ⟨_, rfl⟩
                    refine lv_iinc (v := x24) (lv' := [(4, .int x24), (0, .ref o), (1, .int n1), (2, .int a2), (3, .int (nI s1))]) hx hb d_Mo_seal_178 hl (k := 0) rfl (by rw [e_x24]; rfl) (by decide) rfl (fun ls hl => ?_)
                    refine lv_goto (tgt := 141) hx hb d_Mo_seal_181 (by decide) ?_
                    exact ih_141 (j + 1) x24 G23 _ _ _ lj (nb_s e_x24 hj) hM hf (z_m hm_141 lj) hI (lv_sub hl [0, 1, 2, 3, 4] rfl)
                  · refine lv_iload hx hb d_Mo_seal_161 (lv_at hl 0 rfl) ?_
                    refine lv_iconst (v := 4) hx hb d_Mo_seal_163 (by decide) ?_
                    refine lv_iadd hx hb d_Mo_seal_164 ?_
                    refine lv_goto (tgt := 172) hx hb d_Mo_seal_165 (by decide) ?_
                    refine gw_Si (As := [.long ((vp_updL fl s1 (fl s1 + 1)) s1), .int (y4 + (4 : Int32))]) (rest := [.ref o]) M hK hI (c_Mo_byteOf l ((vp_updL fl s1 (fl s1 + 1)) s1) (y4 + (4 : Int32))) k_Mo_byteOf m_Mo_119 rfl hl.1 rfl (Nat.le_of_ble_eq_true rfl) ⟨rfl, rfl, ⟨Nat.le_of_ble_eq_true rfl, Nat.le_of_ble_eq_true rfl⟩, ⟨Nat.le_of_ble_eq_true rfl, Nat.le_of_ble_eq_true rfl⟩⟩ d_Mo_seal_172 (fun x25 G9 H locs hw hI => ?_)
                    obtain ⟨h_x25, hw⟩ := hw
                    rw [hw] at hI
                    refine gw_Vv (As := [.int x25]) (rest := []) M hK hI (c_Mo_put l o q B 0 f0 (4 + j) g0 fu fn fx (upd fi s1 (fi s1 - nI f0)) (vp_updL fl s1 (fl s1 + 1)) hM x25 h_x25 (by omega)) k_Mo_put m_Mo_154 hM.O (ci := 6) rfl (fun x hx => ⟨_, hx⟩) rfl hl.1 rfl (Nat.le_of_ble_eq_true rfl) ⟨rfl, rfl, ⟨Nat.le_of_ble_eq_true rfl, Nat.le_of_ble_eq_true rfl⟩, ⟨Nat.le_of_ble_eq_true rfl, Nat.le_of_ble_eq_true rfl⟩⟩ d_Mo_seal_175 (fun G26 H locs hw hI => ?_)
                    obtain ⟨hM, hfz⟩ := hw
                    have hf := hf.tr hfz
                    obtain ⟨x27, e_x27⟩ : ∃ ww9 : Int32, ww9 = y4 + 1 := ⟨_, rfl⟩
                    refine lv_iinc (v := x27) (lv' := [(4, .int x27), (0, .ref o), (1, .int n1), (2, .int a2), (3, .int (nI s1))]) hx hb d_Mo_seal_178 hl (k := 0) rfl (by rw [e_x27]; rfl) (by decide) rfl (fun ls hl => ?_)
                    refine lv_goto (tgt := 141) hx hb d_Mo_seal_181 (by decide) ?_
                    exact ih_141 (j + 1) x27 G26 _ _ _ lj (nb_s e_x27 hj) hM hf (z_m hm_141 lj) hI (lv_sub hl [0, 1, 2, 3, 4] rfl)
            exact L_141 _ 0 0 Gk _ _ _ (Nat.zero_le _) rfl hM hf (Nat.lt_succ_self _) hI (lv_sub hl [0, 1, 2, 3, 4] rfl)
          · have lk : k < 4 := nb_lt (n := 4) hk c_111 (by omega) (by omega)
            refine lv_aload_n hx hb d_Mo_seal_114 rfl (lv_at hl 1 rfl) ?_
            refine lv_iload_n hx hb d_Mo_seal_115 rfl (lv_at hl 2 rfl) ?_
            refine lv_bipush (v := 24) hx hb d_Mo_seal_116 (by decide) ?_
            refine lv_bipush (v := 8) hx hb d_Mo_seal_118 (by decide) ?_
            refine lv_iload hx hb d_Mo_seal_120 (lv_at hl 0 rfl) ?_
            refine lv_imul hx hb d_Mo_seal_122 ?_
            refine lv_isub hx hb d_Mo_seal_123 ?_
            refine lv_ishr hx hb d_Mo_seal_124 ?_
            refine lv_sipush (v := 255) hx hb d_Mo_seal_125 (by decide) ?_
            refine lv_iand hx hb d_Mo_seal_128 ?_
            refine gw_Vv (As := [.int ((n1 >>> (((24 : Int32) - ((8 : Int32) * y4)) &&& 31)) &&& (255 : Int32))]) (rest := []) M hK hI (c_Mo_put l o q B 0 f0 k g0 fu fn fx (upd fi s1 (fi s1 - nI f0)) (vp_updL fl s1 (fl s1 + 1)) hM ((n1 >>> (((24 : Int32) - ((8 : Int32) * y4)) &&& 31)) &&& (255 : Int32)) (by8_255 _) (by omega)) k_Mo_put m_Mo_154 hM.O (ci := 6) rfl (fun x hx => ⟨_, hx⟩) rfl hl.1 rfl (Nat.le_of_ble_eq_true rfl) ⟨rfl, rfl, ⟨Nat.le_of_ble_eq_true rfl, Nat.le_of_ble_eq_true rfl⟩, ⟨Nat.le_of_ble_eq_true rfl, Nat.le_of_ble_eq_true rfl⟩⟩ d_Mo_seal_129 (fun G28 H locs hw hI => ?_)
            obtain ⟨hM, hfz⟩ := hw
            have hf := hf.tr hfz
            obtain ⟨x29, e_x29⟩ : ∃ ww9 : Int32, ww9 = y4 + 1 := ⟨_, rfl⟩
            refine lv_iinc (v := x29) (lv' := [(4, .int x29), (0, .ref o), (1, .int n1), (2, .int a2), (3, .int (nI s1))]) hx hb d_Mo_seal_132 hl (k := 0) rfl (by rw [e_x29]; rfl) (by decide) rfl (fun ls hl => ?_)
            refine lv_goto (tgt := 108) hx hb d_Mo_seal_135 (by decide) ?_
            exact ih_108 (k + 1) x29 G28 _ _ _ lk (nb_s e_x29 hk) hM hf (z_m hm_108 lk) hI (lv_sub hl [0, 1, 2, 3, 4] rfl)
      exact L_108 _ 0 0 G8 _ _ _ (Nat.zero_le _) rfl hM hf (Nat.lt_succ_self _) hI (lv_sub hl [0, 2, 3, 4, 1] rfl)
    · have hr68 := c_68
      refine lv_iconst (v := (-1)) hx hb d_Mo_seal_71 (by decide) ?_
      exact gw_iret M hr hlo hI d_Mo_seal_72 (⟨Or.inl ⟨Or.inr c_68, rfl, hM⟩, hf⟩)

abbrev rm_Mo_fourBytes : Room := { frames := 0, cells := 0, slots := 0, locals := 0 }
set_option maxHeartbeats 4000000 in
set_option maxRecDepth 100000 in
theorem c_Mo_fourBytes (l : Launch) {D : gw_D} {Hs : Heap} {G : gw_G} (o : Nat) (q : Nat → Nat) (B : Nat) (t0 : Int32) (f0 l0 g0 : Nat) (fu fn fx fi : Nat → Int32) (fl : Nat → Int64) (hM : mdl D G o q B t0 f0 l0 g0 fu fn fx fi fl) (a1 : Int32) (n : Nat) (ha1 : a1 = nI n) (hn : n ≤ 200) : Met l y_Mo_fourBytes (Cond.code y_Mo_fourBytes b_Mo_fourBytes 2 (some .long) :: tb) rm_Mo_fourBytes (gw_Pc D Hs G [.ref o, .int a1]) (gw_Ql D Hs (fun _ G1 => G1 = G)) 0 0 (gw_A Hs) := by
  refine gw_met (by decide) (Nat.le_of_ble_eq_true rfl) ?_
  intro p e s m args below meth c M hK hr hlo hin hI ls hl
  have hx := M.1
  have hb := M.2.1
  have hl : lv_has ls 2 [(0, .ref o), (1, .int a1)] := hl
  have hf : gw_fr (mown o q) G G := gw_fr.rf
  refine lv_aload_n hx hb d_Mo_fourBytes_0 rfl (lv_at hl 0 rfl) ?_
  refine gw_get M hK hI hM.O i_Mo rfl 18 (by decide) f_Mo_60 rfl (Pv := fun v => v = .ref (q 18)) (fun x hx => ⟨_, _, hx, rfl, rfl⟩) d_Mo_fourBytes_1 (fun v hv => ?_)
  subst hv
  refine lv_iload_n hx hb d_Mo_fourBytes_4 rfl (lv_at hl 1 rfl) ?_
  refine gw_iald M hK hI hM.k18 (nb_in ha1 (by omega)) d_Mo_fourBytes_5 (fun x1 h_x1 => ?_)
  refine lv_i2l hx hb d_Mo_fourBytes_6 rfl ?_
  refine lv_bipush (v := 24) hx hb d_Mo_fourBytes_7 (by decide) ?_
  refine lv_lshl hx hb d_Mo_fourBytes_9 rfl ?_
  refine lv_aload_n hx hb d_Mo_fourBytes_10 rfl (lv_at hl 0 rfl) ?_
  refine gw_get M hK hI hM.O i_Mo rfl 18 (by decide) f_Mo_60 rfl (Pv := fun v => v = .ref (q 18)) (fun x hx => ⟨_, _, hx, rfl, rfl⟩) d_Mo_fourBytes_11 (fun v hv => ?_)
  subst hv
  refine lv_iload_n hx hb d_Mo_fourBytes_14 rfl (lv_at hl 1 rfl) ?_
  refine lv_iconst (v := 1) hx hb d_Mo_fourBytes_15 (by decide) ?_
  refine lv_iadd hx hb d_Mo_fourBytes_16 ?_
  refine gw_iald M hK hI hM.k18 (nb_in (nb_add ha1 1) (by omega) (by decide)) d_Mo_fourBytes_17 (fun x2 h_x2 => ?_)
  refine lv_bipush (v := 16) hx hb d_Mo_fourBytes_18 (by decide) ?_
  refine lv_ishl hx hb d_Mo_fourBytes_20 ?_
  refine lv_i2l hx hb d_Mo_fourBytes_21 rfl ?_
  refine lv_lor hx hb d_Mo_fourBytes_22 ?_
  refine lv_aload_n hx hb d_Mo_fourBytes_23 rfl (lv_at hl 0 rfl) ?_
  refine gw_get M hK hI hM.O i_Mo rfl 18 (by decide) f_Mo_60 rfl (Pv := fun v => v = .ref (q 18)) (fun x hx => ⟨_, _, hx, rfl, rfl⟩) d_Mo_fourBytes_24 (fun v hv => ?_)
  subst hv
  refine lv_iload_n hx hb d_Mo_fourBytes_27 rfl (lv_at hl 1 rfl) ?_
  refine lv_iconst (v := 2) hx hb d_Mo_fourBytes_28 (by decide) ?_
  refine lv_iadd hx hb d_Mo_fourBytes_29 ?_
  refine gw_iald M hK hI hM.k18 (nb_in (nb_add ha1 2) (by omega) (by decide)) d_Mo_fourBytes_30 (fun x3 h_x3 => ?_)
  refine lv_bipush (v := 8) hx hb d_Mo_fourBytes_31 (by decide) ?_
  refine lv_ishl hx hb d_Mo_fourBytes_33 ?_
  refine lv_i2l hx hb d_Mo_fourBytes_34 rfl ?_
  refine lv_lor hx hb d_Mo_fourBytes_35 ?_
  refine lv_aload_n hx hb d_Mo_fourBytes_36 rfl (lv_at hl 0 rfl) ?_
  refine gw_get M hK hI hM.O i_Mo rfl 18 (by decide) f_Mo_60 rfl (Pv := fun v => v = .ref (q 18)) (fun x hx => ⟨_, _, hx, rfl, rfl⟩) d_Mo_fourBytes_37 (fun v hv => ?_)
  subst hv
  refine lv_iload_n hx hb d_Mo_fourBytes_40 rfl (lv_at hl 1 rfl) ?_
  refine lv_iconst (v := 3) hx hb d_Mo_fourBytes_41 (by decide) ?_
  refine lv_iadd hx hb d_Mo_fourBytes_42 ?_
  refine gw_iald M hK hI hM.k18 (nb_in (nb_add ha1 3) (by omega) (by decide)) d_Mo_fourBytes_43 (fun x4 h_x4 => ?_)
  refine lv_i2l hx hb d_Mo_fourBytes_44 rfl ?_
  refine lv_lor hx hb d_Mo_fourBytes_45 ?_
  exact gw_lret M hr hlo hI d_Mo_fourBytes_46 rfl

abbrev rm_Mo_isGiven : Room := { frames := 0, cells := 0, slots := 0, locals := 0 }
set_option maxHeartbeats 4000000 in
set_option maxRecDepth 100000 in
theorem c_Mo_isGiven (l : Launch) {D : gw_D} {Hs : Heap} {G : gw_G} (o : Nat) (q : Nat → Nat) (B : Nat) (t0 : Int32) (f0 l0 g0 : Nat) (fu fn fx fi : Nat → Int32) (fl : Nat → Int64) (hM : mdl D G o q B t0 f0 l0 g0 fu fn fx fi fl) (a1 : Int32) (s1 : Nat) (ha1 : a1 = nI s1) (hs1 : s1 < 16) (n2 : Int64) (hB : B ≤ 600) : Met l y_Mo_isGiven (Cond.code y_Mo_isGiven b_Mo_isGiven 5 (some .boolean) :: tb) rm_Mo_isGiven (gw_Pc D Hs G [.ref o, .int a1, .long n2]) (gw_Qi D Hs (fun r G1 => (r = 0 ∨ r = 1) ∧ G1 = G)) 0 0 (gw_A Hs) := by
  refine gw_met (by decide) (Nat.le_of_ble_eq_true rfl) ?_
  intro p e s m args below meth c M hK hr hlo hin hI ls hl
  have hx := M.1
  have hb := M.2.1
  have hl : lv_has ls 5 [(0, .ref o), (1, .int a1), (2, .long n2)] := hl
  have hf : gw_fr (mown o q) G G := gw_fr.rf
  refine lv_iconst (v := 0) hx hb d_Mo_isGiven_0 (by decide) ?_
  refine lv_istore (lv' := [(4, .int 0), (0, .ref o), (1, .int a1), (2, .long n2)]) hx hb d_Mo_isGiven_1 hl (by decide) rfl (fun ls hl => ?_)
  have L_3 : ∀ (n9 : Nat) (k : Nat) (y4 : Int32) (H : Heap) (locs : List Loc) (ls : Array Slot), k ≤ B → y4 = nI k → B - k < n9 → gw_I D Hs G s.heap H locs → lv_has ls 5 [(4, .int y4), (0, .ref o), (1, .int a1), (2, .long n2)] → W p l e rm_Mo_isGiven s m args below meth c H locs 0 0 (MQ below (gw_Qi D Hs (fun r G1 => (r = 0 ∨ r = 1) ∧ G1 = G)) args s 0 0 (gw_A Hs)) (F0 m 3 ls []) := by
    intro n9
    induction n9 with
    | zero =>
      intro k y4 H locs ls bk hk hm hI hl
      exact absurd hm (Nat.not_lt_zero _)
    | succ n9 ih_3 =>
      intro k y4 H locs ls bk hk hm_3 hI hl
      refine lv_iload hx hb d_Mo_isGiven_3 (lv_at hl 0 rfl) ?_
      refine lv_aload_n hx hb d_Mo_isGiven_5 rfl (lv_at hl 1 rfl) ?_
      refine gw_get M hK hI hM.O i_Mo rfl 15 (by decide) f_Mo_54 rfl (Pv := fun v => v = .ref (q 15)) (fun x hx => ⟨_, _, hx, rfl, rfl⟩) d_Mo_isGiven_6 (fun v hv => ?_)
      subst hv
      refine lv_iload_n hx hb d_Mo_isGiven_9 rfl (lv_at hl 2 rfl) ?_
      refine gw_iald M hK hI hM.k15 (nb_in ha1 hs1) d_Mo_isGiven_10 (fun x1 h_x1 => ?_)
      refine lv_icmp_ge (tgt := 40) hx hb d_Mo_isGiven_11 (by decide) (fun c_11 => ?_) (fun c_11 => ?_)
      · refine lv_iconst (v := 0) hx hb d_Mo_isGiven_40 (by decide) ?_
        exact gw_zret M hr rfl hlo hI d_Mo_isGiven_41 (⟨Or.inl rfl, rfl⟩)
      · have lk : k < B := by obtain ⟨m9, hm9, he9⟩ := h_x1; have h7 := nb_lt (n := m9) hk (by rw [← he9]; exact c_11) (by omega) (by omega); omega
        refine lv_aload_n hx hb d_Mo_isGiven_14 rfl (lv_at hl 1 rfl) ?_
        refine gw_get M hK hI hM.O i_Mo rfl 14 (by decide) f_Mo_51 rfl (Pv := fun v => v = .ref (q 14)) (fun x hx => ⟨_, _, hx, rfl, rfl⟩) d_Mo_isGiven_15 (fun v hv => ?_)
        subst hv
        refine lv_sipush (v := 1100) hx hb d_Mo_isGiven_18 (by decide) ?_
        refine lv_iload_n hx hb d_Mo_isGiven_21 rfl (lv_at hl 2 rfl) ?_
        refine lv_imul hx hb d_Mo_isGiven_22 ?_
        refine lv_iload hx hb d_Mo_isGiven_23 (lv_at hl 0 rfl) ?_
        refine lv_iadd hx hb d_Mo_isGiven_25 ?_
        refine gw_lald M hK hI hM.k14 (nb_in (nb_aa (nb_mul ha1 1100) hk) (by omega) (by decide)) d_Mo_isGiven_26 (fun x2 h_x2 => ?_)
        refine lv_lload_n hx hb d_Mo_isGiven_27 rfl (lv_at hl 3 rfl) ?_
        refine W.lcmp hx hb d_Mo_isGiven_28 ?_
        refine lv_if_ne (tgt := 34) hx hb d_Mo_isGiven_29 (by decide) (fun c_29 => ?_) (fun c_29 => ?_)
        · obtain ⟨x3, e_x3⟩ : ∃ ww9 : Int32, ww9 = y4 + 1 := ⟨_, rfl⟩
          refine lv_iinc (v := x3) (lv' := [(4, .int x3), (0, .ref o), (1, .int a1), (2, .long n2)]) hx hb d_Mo_isGiven_34 hl (k := 0) rfl (by rw [e_x3]; rfl) (by decide) rfl (fun ls hl => ?_)
          refine lv_goto (tgt := 3) hx hb d_Mo_isGiven_37 (by decide) ?_
          exact ih_3 (k + 1) x3 _ _ _ lk (nb_s e_x3 hk) (z_m hm_3 lk) hI (lv_sub hl [0, 1, 2, 3] rfl)
        · refine lv_iconst (v := 1) hx hb d_Mo_isGiven_32 (by decide) ?_
          exact gw_zret M hr rfl hlo hI d_Mo_isGiven_33 (⟨Or.inr rfl, rfl⟩)
  exact L_3 _ 0 0 _ _ _ (Nat.zero_le _) rfl (Nat.lt_succ_self _) hI (lv_sub hl [0, 1, 2, 3] rfl)

abbrev rm_Mo_give : Room := { frames := 0, cells := 0, slots := 0, locals := 0 }
set_option maxHeartbeats 4000000 in
set_option maxRecDepth 100000 in
theorem c_Mo_give (l : Launch) {D : gw_D} {Hs : Heap} {G : gw_G} (o : Nat) (q : Nat → Nat) (B : Nat) (t0 : Int32) (f0 l0 g0 : Nat) (fu fn fx fi : Nat → Int32) (fl : Nat → Int64) (hM : mdl D G o q B t0 f0 l0 g0 fu fn fx fi fl) (a1 : Int32) (s1 : Nat) (ha1 : a1 = nI s1) (hs1 : s1 < 16) (n2 : Int64) (hB : B ≤ 600) : Met l y_Mo_give (Cond.code y_Mo_give b_Mo_give 8 none :: tb) rm_Mo_give (gw_Pc D Hs G [.ref o, .int a1, .long n2]) (gw_Qv D Hs (fun G1 => mdl D G1 o q (B + 1) t0 f0 l0 g0 fu fn fx fi fl ∧ gw_fr (mown o q) G G1)) 0 0 (gw_A Hs) := by
  refine gw_met (by decide) (Nat.le_of_ble_eq_true rfl) ?_
  intro p e s m args below meth c M hK hr hlo hin hI ls hl
  have hx := M.1
  have hb := M.2.1
  have hl : lv_has ls 8 [(0, .ref o), (1, .int a1), (2, .long n2)] := hl
  have hf : gw_fr (mown o q) G G := gw_fr.rf
  refine lv_aload_n hx hb d_Mo_give_0 rfl (lv_at hl 0 rfl) ?_
  refine gw_get M hK hI hM.O i_Mo rfl 11 (by decide) f_Mo_42 rfl (Pv := fun v => v = .ref (q 11)) (fun x hx => ⟨_, _, hx, rfl, rfl⟩) d_Mo_give_1 (fun v hv => ?_)
  subst hv
  refine lv_iload_n hx hb d_Mo_give_4 rfl (lv_at hl 1 rfl) ?_
  refine lv_dup2_11 hx hb d_Mo_give_5 rfl rfl ?_
  refine gw_lald M hK hI hM.k11 (nb_in ha1 hs1) d_Mo_give_6 (fun x1 h_x1 => ?_)
  refine lv_lconst (v := 1) hx hb d_Mo_give_7 (by decide) ?_
  refine lv_ladd hx hb d_Mo_give_8 ?_
  refine lv_topl (fun x2 e_x2 => ?_)
  refine gw_last M hK hI hM.k11 (nb_in ha1 hs1) trivial d_Mo_give_9 (fun H locs hI => ?_)
  refine lv_aload_n hx hb d_Mo_give_10 rfl (lv_at hl 0 rfl) ?_
  refine gw_get M hK hI hM.O i_Mo rfl 10 (by decide) f_Mo_39 rfl (Pv := fun v => v = .ref (q 10)) (fun x hx => ⟨_, _, hx, rfl, rfl⟩) d_Mo_give_11 (fun v hv => ?_)
  subst hv
  refine lv_iload_n hx hb d_Mo_give_14 rfl (lv_at hl 1 rfl) ?_
  refine lv_lload_n hx hb d_Mo_give_15 rfl (lv_at hl 2 rfl) ?_
  refine lv_aload_n hx hb d_Mo_give_16 rfl (lv_at hl 0 rfl) ?_
  refine gw_get M hK hI hM.O i_Mo rfl 10 (by decide) f_Mo_39 rfl (Pv := fun v => v = .ref (q 10)) (fun x hx => ⟨_, _, hx, rfl, rfl⟩) d_Mo_give_17 (fun v hv => ?_)
  subst hv
  refine lv_iload_n hx hb d_Mo_give_20 rfl (lv_at hl 1 rfl) ?_
  refine gw_lald M hK hI hM.k10 (nb_in ha1 hs1) d_Mo_give_21 (fun x3 h_x3 => ?_)
  refine W.lcmp hx hb d_Mo_give_22 ?_
  have J_36 : ∀ (j36 : Int64) (H : Heap) (locs : List Loc) (ls : Array Slot), gw_I D Hs G s.heap H locs → lv_has ls 8 [(0, .ref o), (1, .int a1), (2, .long n2)] → W p l e rm_Mo_give s m args below meth c H locs 0 0 (MQ below (gw_Qv D Hs (fun G1 => mdl D G1 o q (B + 1) t0 f0 l0 g0 fu fn fx fi fl ∧ gw_fr (mown o q) G G1)) args s 0 0 (gw_A Hs)) (F0 m 36 ls [.long j36, .int a1, .ref (q 10)]) := by
    intro j36 H locs ls  hI hl
    refine gw_last M hK hI hM.k10 (nb_in ha1 hs1) trivial d_Mo_give_36 (fun H locs hI => ?_)
    refine lv_iconst (v := 0) hx hb d_Mo_give_37 (by decide) ?_
    refine lv_istore (lv' := [(4, .int 0), (0, .ref o), (1, .int a1), (2, .long n2)]) hx hb d_Mo_give_38 hl (by decide) rfl (fun ls hl => ?_)
    refine lv_iconst (v := 0) hx hb d_Mo_give_40 (by decide) ?_
    refine lv_istore (lv' := [(5, .int 0), (4, .int 0), (0, .ref o), (1, .int a1), (2, .long n2)]) hx hb d_Mo_give_41 hl (by decide) rfl (fun ls hl => ?_)
    have L_43 : ∀ (n9 : Nat) (k : Nat) (n : Nat) (y4 : Int32) (y5 : Int32) (H : Heap) (locs : List Loc) (ls : Array Slot), k ≤ B → y5 = nI k → n ≤ k → y4 = nI n → B - k < n9 → gw_I D Hs G s.heap H locs → lv_has ls 8 [(5, .int y5), (4, .int y4), (0, .ref o), (1, .int a1), (2, .long n2)] → W p l e rm_Mo_give s m args below meth c H locs 0 0 (MQ below (gw_Qv D Hs (fun G1 => mdl D G1 o q (B + 1) t0 f0 l0 g0 fu fn fx fi fl ∧ gw_fr (mown o q) G G1)) args s 0 0 (gw_A Hs)) (F0 m 43 ls []) := by
      intro n9
      induction n9 with
      | zero =>
        intro k n y4 y5 H locs ls bk hk bn hn hm hI hl
        exact absurd hm (Nat.not_lt_zero _)
      | succ n9 ih_43 =>
        intro k n y4 y5 H locs ls bk hk bn hn hm_43 hI hl
        refine lv_iload hx hb d_Mo_give_43 (lv_at hl 0 rfl) ?_
        refine lv_aload_n hx hb d_Mo_give_45 rfl (lv_at hl 2 rfl) ?_
        refine gw_get M hK hI hM.O i_Mo rfl 15 (by decide) f_Mo_54 rfl (Pv := fun v => v = .ref (q 15)) (fun x hx => ⟨_, _, hx, rfl, rfl⟩) d_Mo_give_46 (fun v hv => ?_)
        subst hv
        refine lv_iload_n hx hb d_Mo_give_49 rfl (lv_at hl 3 rfl) ?_
        refine gw_iald M hK hI hM.k15 (nb_in ha1 hs1) d_Mo_give_50 (fun x4 h_x4 => ?_)
        refine lv_icmp_ge (tgt := 113) hx hb d_Mo_give_51 (by decide) (fun c_51 => ?_) (fun c_51 => ?_)
        · refine lv_aload_n hx hb d_Mo_give_113 rfl (lv_at hl 2 rfl) ?_
          refine gw_get M hK hI hM.O i_Mo rfl 14 (by decide) f_Mo_51 rfl (Pv := fun v => v = .ref (q 14)) (fun x hx => ⟨_, _, hx, rfl, rfl⟩) d_Mo_give_114 (fun v hv => ?_)
          subst hv
          refine lv_sipush (v := 1100) hx hb d_Mo_give_117 (by decide) ?_
          refine lv_iload_n hx hb d_Mo_give_120 rfl (lv_at hl 3 rfl) ?_
          refine lv_imul hx hb d_Mo_give_121 ?_
          refine lv_iload hx hb d_Mo_give_122 (lv_at hl 1 rfl) ?_
          refine lv_iadd hx hb d_Mo_give_124 ?_
          refine lv_lload_n hx hb d_Mo_give_125 rfl (lv_at hl 4 rfl) ?_
          refine gw_last M hK hI hM.k14 (nb_in (nb_aa (nb_mul ha1 1100) hn) (by omega) (by decide)) trivial d_Mo_give_126 (fun H locs hI => ?_)
          refine lv_aload_n hx hb d_Mo_give_127 rfl (lv_at hl 2 rfl) ?_
          refine gw_get M hK hI hM.O i_Mo rfl 15 (by decide) f_Mo_54 rfl (Pv := fun v => v = .ref (q 15)) (fun x hx => ⟨_, _, hx, rfl, rfl⟩) d_Mo_give_128 (fun v hv => ?_)
          subst hv
          refine lv_iload_n hx hb d_Mo_give_131 rfl (lv_at hl 3 rfl) ?_
          refine lv_iload hx hb d_Mo_give_132 (lv_at hl 1 rfl) ?_
          refine lv_iconst (v := 1) hx hb d_Mo_give_134 (by decide) ?_
          refine lv_iadd hx hb d_Mo_give_135 ?_
          refine lv_topi (fun x5 e_x5 => ?_)
          obtain ⟨-, x9, ⟨f9, hf9, hq9⟩, hat⟩ := hI.1.2.2 (q 15) _ hM.k15
          subst hq9
          refine gw_iast0 M hK hI hM.k15 hat (nb_in ha1 hs1) (kA D 0 16 (leN (B + 1))) ⟨_, fun j hj => ?_, rfl⟩ d_Mo_give_136 (fun H locs hI => ?_)
          · show leN (B + 1) (if j = _ then _ else _)
            by_cases hjj : j = a1.toNatClampNeg
            · rw [if_pos hjj]; exact ⟨n + 1, by omega, by rw [e_x5]; exact nb_add hn 1⟩
            · rw [if_neg hjj]; obtain ⟨m8, hm8, he8⟩ := hf9 j hj; exact ⟨m8, by omega, he8⟩
          obtain ⟨G6, hE_G6⟩ : ∃ z9, gw_up G (q 15) (kA D 0 16 (leN (B + 1))) = z9 := ⟨_, rfl⟩
          rw [hE_G6] at hI
          have hf : gw_fr (mown o q) G G6 := hf.tr (by rw [← hE_G6]; exact gw_fr.up (mown.k rfl))
          have hM : mdl D G6 o q (B + 1) t0 f0 l0 g0 fu fn fx fi fl := by rw [← hE_G6]; exact hM.ar15 _
          exact gw_vret M hr hlo hI d_Mo_give_137 (⟨hM, hf⟩)
        · have lk : k < B := by obtain ⟨m9, hm9, he9⟩ := h_x4; have h7 := nb_lt (n := m9) hk (by rw [← he9]; exact c_51) (by omega) (by omega); omega
          refine lv_aload_n hx hb d_Mo_give_54 rfl (lv_at hl 2 rfl) ?_
          refine gw_get M hK hI hM.O i_Mo rfl 14 (by decide) f_Mo_51 rfl (Pv := fun v => v = .ref (q 14)) (fun x hx => ⟨_, _, hx, rfl, rfl⟩) d_Mo_give_55 (fun v hv => ?_)
          subst hv
          refine lv_sipush (v := 1100) hx hb d_Mo_give_58 (by decide) ?_
          refine lv_iload_n hx hb d_Mo_give_61 rfl (lv_at hl 3 rfl) ?_
          refine lv_imul hx hb d_Mo_give_62 ?_
          refine lv_iload hx hb d_Mo_give_63 (lv_at hl 0 rfl) ?_
          refine lv_iadd hx hb d_Mo_give_65 ?_
          refine gw_lald M hK hI hM.k14 (nb_in (nb_aa (nb_mul ha1 1100) hk) (by omega) (by decide)) d_Mo_give_66 (fun x7 h_x7 => ?_)
          refine lv_lstore (lv' := [(6, .long x7), (5, .int y5), (4, .int y4), (0, .ref o), (1, .int a1), (2, .long n2)]) hx hb d_Mo_give_67 hl (by decide) rfl (fun ls hl => ?_)
          refine lv_lload hx hb d_Mo_give_69 (lv_at hl 0 rfl) ?_
          refine lv_aload_n hx hb d_Mo_give_71 rfl (lv_at hl 3 rfl) ?_
          refine gw_get M hK hI hM.O i_Mo rfl 10 (by decide) f_Mo_39 rfl (Pv := fun v => v = .ref (q 10)) (fun x hx => ⟨_, _, hx, rfl, rfl⟩) d_Mo_give_72 (fun v hv => ?_)
          subst hv
          refine lv_iload_n hx hb d_Mo_give_75 rfl (lv_at hl 4 rfl) ?_
          refine gw_lald M hK hI hM.k10 (nb_in ha1 hs1) d_Mo_give_76 (fun x8 h_x8 => ?_)
          refine lv_aload_n hx hb d_Mo_give_77 rfl (lv_at hl 3 rfl) ?_
          refine gw_get M hK hI hM.O i_Mo rfl 6 (by decide) f_Mo_26 rfl (Pv := fun v => v = .ref (q 6)) (fun x hx => ⟨_, _, hx, rfl, rfl⟩) d_Mo_give_78 (fun v hv => ?_)
          subst hv
          refine lv_iload_n hx hb d_Mo_give_81 rfl (lv_at hl 4 rfl) ?_
          refine gw_iald M hK hI hM.k6 (nb_in ha1 hs1) d_Mo_give_82 (fun x9 h_x9 => ?_)
          refine lv_i2l hx hb d_Mo_give_83 rfl ?_
          refine lv_lsub hx hb d_Mo_give_84 ?_
          refine W.lcmp hx hb d_Mo_give_85 ?_
          refine lv_if_le (tgt := 107) hx hb d_Mo_give_86 (by decide) (fun c_86 => ?_) (fun c_86 => ?_)
          · obtain ⟨x10, e_x10⟩ : ∃ ww9 : Int32, ww9 = y5 + 1 := ⟨_, rfl⟩
            refine lv_iinc (v := x10) (lv' := [(5, .int x10), (6, .long x7), (4, .int y4), (0, .ref o), (1, .int a1), (2, .long n2)]) hx hb d_Mo_give_107 hl (k := 1) rfl (by rw [e_x10]; rfl) (by decide) rfl (fun ls hl => ?_)
            refine lv_goto (tgt := 43) hx hb d_Mo_give_110 (by decide) ?_
            exact ih_43 (k + 1) n y4 x10 _ _ _ lk (nb_s e_x10 hk) (by omega) hn (z_m hm_43 lk) hI (lv_sub hl [0, 2, 3, 4, 5] rfl)
          · refine lv_aload_n hx hb d_Mo_give_89 rfl (lv_at hl 3 rfl) ?_
            refine gw_get M hK hI hM.O i_Mo rfl 14 (by decide) f_Mo_51 rfl (Pv := fun v => v = .ref (q 14)) (fun x hx => ⟨_, _, hx, rfl, rfl⟩) d_Mo_give_90 (fun v hv => ?_)
            subst hv
            refine lv_sipush (v := 1100) hx hb d_Mo_give_93 (by decide) ?_
            refine lv_iload_n hx hb d_Mo_give_96 rfl (lv_at hl 4 rfl) ?_
            refine lv_imul hx hb d_Mo_give_97 ?_
            refine lv_iload hx hb d_Mo_give_98 (lv_at hl 2 rfl) ?_
            refine lv_iadd hx hb d_Mo_give_100 ?_
            refine lv_lload hx hb d_Mo_give_101 (lv_at hl 0 rfl) ?_
            refine gw_last M hK hI hM.k14 (nb_in (nb_aa (nb_mul ha1 1100) hn) (by omega) (by decide)) trivial d_Mo_give_103 (fun H locs hI => ?_)
            obtain ⟨x11, e_x11⟩ : ∃ ww9 : Int32, ww9 = y4 + 1 := ⟨_, rfl⟩
            refine lv_iinc (v := x11) (lv' := [(4, .int x11), (6, .long x7), (5, .int y5), (0, .ref o), (1, .int a1), (2, .long n2)]) hx hb d_Mo_give_104 hl (k := 2) rfl (by rw [e_x11]; rfl) (by decide) rfl (fun ls hl => ?_)
            obtain ⟨x12, e_x12⟩ : ∃ ww9 : Int32, ww9 = y5 + 1 := ⟨_, rfl⟩
            refine lv_iinc (v := x12) (lv' := [(5, .int x12), (4, .int x11), (6, .long x7), (0, .ref o), (1, .int a1), (2, .long n2)]) hx hb d_Mo_give_107 hl (k := 2) rfl (by rw [e_x12]; rfl) (by decide) rfl (fun ls hl => ?_)
            refine lv_goto (tgt := 43) hx hb d_Mo_give_110 (by decide) ?_
            exact ih_43 (k + 1) (n + 1) x11 x12 _ _ _ lk (nb_s e_x12 hk) (by omega) (nb_s e_x11 hn) (z_m hm_43 lk) hI (lv_sub hl [0, 1, 3, 4, 5] rfl)
    exact L_43 _ 0 0 0 0 _ _ _ (Nat.zero_le _) rfl (Nat.zero_le _) rfl (Nat.lt_succ_self _) hI (lv_sub hl [0, 1, 2, 3, 4] rfl)
  refine lv_if_le (tgt := 30) hx hb d_Mo_give_23 (by decide) (fun c_23 => ?_) (fun c_23 => ?_)
  · refine lv_aload_n hx hb d_Mo_give_30 rfl (lv_at hl 0 rfl) ?_
    refine gw_get M hK hI hM.O i_Mo rfl 10 (by decide) f_Mo_39 rfl (Pv := fun v => v = .ref (q 10)) (fun x hx => ⟨_, _, hx, rfl, rfl⟩) d_Mo_give_31 (fun v hv => ?_)
    subst hv
    refine lv_iload_n hx hb d_Mo_give_34 rfl (lv_at hl 1 rfl) ?_
    refine gw_lald M hK hI hM.k10 (nb_in ha1 hs1) d_Mo_give_35 (fun x13 h_x13 => ?_)
    exact J_36 x13 _ _ _  hI (lv_sub hl [0, 1, 2] rfl)
  · refine lv_lload_n hx hb d_Mo_give_26 rfl (lv_at hl 2 rfl) ?_
    refine lv_goto (tgt := 36) hx hb d_Mo_give_27 (by decide) ?_
    exact J_36 n2 _ _ _  hI (lv_sub hl [0, 1, 2] rfl)

theorem nar_z {x : Int32} (h : x = 0 ∨ x = 1) : narrow .boolean (.int x) = .int x := by
  rcases h with h | h <;> (rw [h]; rfl)

abbrev rm_Mo_isSealed : Room := { frames := 5, cells := 0, slots := 0, locals := 121 }
set_option maxHeartbeats 4000000 in
set_option maxRecDepth 100000 in
theorem c_Mo_isSealed (l : Launch) {D : gw_D} {Hs : Heap} {G : gw_G} (o : Nat) (q : Nat → Nat) (B : Nat) (t0 : Int32) (f0 l0 g0 : Nat) (fu fn fx fi : Nat → Int32) (fl : Nat → Int64) (hM : mdl D G o q B t0 f0 l0 g0 fu fn fx fi fl) (a1 : Int32) (s1 : Nat) (ha1 : a1 = nI s1) (hs1 : s1 < 16) (n2 : Int64) (a4 : Int32) (b1 : Nat) (ha4 : a4 = nI b1) (hb1 : b1 ≤ 204) : Met l y_Mo_isSealed (Cond.code y_Mo_isSealed b_Mo_isSealed 7 (some .boolean) :: tb) rm_Mo_isSealed (gw_Pc D Hs G [.ref o, .int a1, .long n2, .int a4]) (gw_Qi D Hs (fun r G1 => (r = 0 ∨ r = 1) ∧ G1 = G)) 0 0 (gw_A Hs) := by
  refine gw_met (by decide) (Nat.le_of_ble_eq_true rfl) ?_
  intro p e s m args below meth c M hK hr hlo hin hI ls hl
  have hx := M.1
  have hb := M.2.1
  have hl : lv_has ls 7 [(0, .ref o), (1, .int a1), (2, .long n2), (4, .int a4)] := hl
  have hf : gw_fr (mown o q) G G := gw_fr.rf
  refine lv_aload_n hx hb d_Mo_isSealed_0 rfl (lv_at hl 0 rfl) ?_
  refine lv_iload_n hx hb d_Mo_isSealed_1 rfl (lv_at hl 1 rfl) ?_
  refine lv_lload_n hx hb d_Mo_isSealed_2 rfl (lv_at hl 2 rfl) ?_
  refine lv_iload hx hb d_Mo_isSealed_3 (lv_at hl 3 rfl) ?_
  refine gw_Vv (As := [.int a1, .long n2, .int a4]) (rest := []) M hK hI (c_Mo_makeSeal l o q B t0 f0 l0 g0 fu fn fx fi fl hM a1 s1 ha1 hs1 n2 a4 b1 ha4 hb1) k_Mo_makeSeal m_Mo_160 hM.O (ci := 6) rfl (fun x hx => ⟨_, hx⟩) rfl hl.1 rfl (Nat.le_of_ble_eq_true rfl) ⟨rfl, rfl, ⟨Nat.le_of_ble_eq_true rfl, Nat.le_of_ble_eq_true rfl⟩, ⟨Nat.le_of_ble_eq_true rfl, Nat.le_of_ble_eq_true rfl⟩⟩ d_Mo_isSealed_5 (fun G9 H locs hw hI => ?_)
  rw [hw] at hI
  refine lv_iconst (v := 1) hx hb d_Mo_isSealed_8 (by decide) ?_
  refine lv_istore (lv' := [(5, .int 1), (0, .ref o), (1, .int a1), (2, .long n2), (4, .int a4)]) hx hb d_Mo_isSealed_9 hl (by decide) rfl (fun ls hl => ?_)
  refine lv_iconst (v := 0) hx hb d_Mo_isSealed_11 (by decide) ?_
  refine lv_istore (lv' := [(6, .int 0), (5, .int 1), (0, .ref o), (1, .int a1), (2, .long n2), (4, .int a4)]) hx hb d_Mo_isSealed_12 hl (by decide) rfl (fun ls hl => ?_)
  have L_14 : ∀ (n9 : Nat) (k : Nat) (y5 : Int32) (y6 : Int32) (H : Heap) (locs : List Loc) (ls : Array Slot), k ≤ 16 → y6 = nI k → (y5 = 0 ∨ y5 = 1) → 16 - k < n9 → gw_I D Hs G s.heap H locs → lv_has ls 7 [(6, .int y6), (5, .int y5), (0, .ref o), (1, .int a1), (2, .long n2), (4, .int a4)] → W p l e rm_Mo_isSealed s m args below meth c H locs 0 0 (MQ below (gw_Qi D Hs (fun r G1 => (r = 0 ∨ r = 1) ∧ G1 = G)) args s 0 0 (gw_A Hs)) (F0 m 14 ls []) := by
    intro n9
    induction n9 with
    | zero =>
      intro k y5 y6 H locs ls bk hk h5 hm hI hl
      exact absurd hm (Nat.not_lt_zero _)
    | succ n9 ih_14 =>
      intro k y5 y6 H locs ls bk hk h5 hm_14 hI hl
      refine lv_iload hx hb d_Mo_isSealed_14 (lv_at hl 0 rfl) ?_
      refine lv_bipush (v := 16) hx hb d_Mo_isSealed_16 (by decide) ?_
      refine lv_icmp_ge (tgt := 62) hx hb d_Mo_isSealed_18 (by decide) (fun c_18 => ?_) (fun c_18 => ?_)
      · refine lv_iload hx hb d_Mo_isSealed_62 (lv_at hl 1 rfl) ?_
        exact gw_zret M hr (nar_z h5) hlo hI d_Mo_isSealed_64 (⟨h5, rfl⟩)
      · have lk : k < 16 := nb_lt (n := 16) hk c_18 (by decide) (z_31 bk)
        refine lv_iload hx hb d_Mo_isSealed_21 (lv_at hl 1 rfl) ?_
        refine lv_if_eq (tgt := 53) hx hb d_Mo_isSealed_23 (by decide) (fun c_23 => ?_) (fun c_23 => ?_)
        · refine lv_iconst (v := 0) hx hb d_Mo_isSealed_53 (by decide) ?_
          refine lv_istore (lv' := [(5, .int 0), (6, .int y6), (0, .ref o), (1, .int a1), (2, .long n2), (4, .int a4)]) hx hb d_Mo_isSealed_54 hl (by decide) rfl (fun ls hl => ?_)
          obtain ⟨x2, e_x2⟩ : ∃ ww9 : Int32, ww9 = y6 + 1 := ⟨_, rfl⟩
          refine lv_iinc (v := x2) (lv' := [(6, .int x2), (5, .int 0), (0, .ref o), (1, .int a1), (2, .long n2), (4, .int a4)]) hx hb d_Mo_isSealed_56 hl (k := 1) rfl (by rw [e_x2]; rfl) (by decide) rfl (fun ls hl => ?_)
          refine lv_goto (tgt := 14) hx hb d_Mo_isSealed_59 (by decide) ?_
          exact ih_14 (k + 1) 0 x2 _ _ _ lk (nb_s e_x2 hk) (Or.inl rfl) (z_m hm_14 lk) hI (lv_sub hl [0, 1, 2, 3, 4, 5] rfl)
        · refine lv_aload_n hx hb d_Mo_isSealed_26 rfl (lv_at hl 2 rfl) ?_
          refine gw_get M hK hI hM.O i_Mo rfl 29 (by decide) f_Mo_87 rfl (Pv := fun v => v = .ref (q 29)) (fun x hx => ⟨_, _, hx, rfl, rfl⟩) d_Mo_isSealed_27 (fun v hv => ?_)
          subst hv
          refine lv_iload hx hb d_Mo_isSealed_30 (lv_at hl 0 rfl) ?_
          refine gw_iald M hK hI hM.k29 (nb_in hk lk) d_Mo_isSealed_32 (fun x3 h_x3 => ?_)
          refine lv_aload_n hx hb d_Mo_isSealed_33 rfl (lv_at hl 2 rfl) ?_
          refine gw_get M hK hI hM.O i_Mo rfl 18 (by decide) f_Mo_60 rfl (Pv := fun v => v = .ref (q 18)) (fun x hx => ⟨_, _, hx, rfl, rfl⟩) d_Mo_isSealed_34 (fun v hv => ?_)
          subst hv
          refine lv_bipush (v := 16) hx hb d_Mo_isSealed_37 (by decide) ?_
          refine lv_iload hx hb d_Mo_isSealed_39 (lv_at hl 5 rfl) ?_
          refine lv_iadd hx hb d_Mo_isSealed_41 ?_
          refine lv_iload hx hb d_Mo_isSealed_42 (lv_at hl 0 rfl) ?_
          refine lv_iadd hx hb d_Mo_isSealed_44 ?_
          refine gw_iald M hK hI hM.k18 (nb_in (nb_aa (nb_aa (k := 16) rfl ha4) hk) (by omega) (by decide)) d_Mo_isSealed_45 (fun x4 h_x4 => ?_)
          refine lv_icmp_ne (tgt := 53) hx hb d_Mo_isSealed_46 (by decide) (fun c_46 => ?_) (fun c_46 => ?_)
          · refine lv_iconst (v := 0) hx hb d_Mo_isSealed_53 (by decide) ?_
            refine lv_istore (lv' := [(5, .int 0), (6, .int y6), (0, .ref o), (1, .int a1), (2, .long n2), (4, .int a4)]) hx hb d_Mo_isSealed_54 hl (by decide) rfl (fun ls hl => ?_)
            obtain ⟨x5, e_x5⟩ : ∃ ww9 : Int32, ww9 = y6 + 1 := ⟨_, rfl⟩
            refine lv_iinc (v := x5) (lv' := [(6, .int x5), (5, .int 0), (0, .ref o), (1, .int a1), (2, .long n2), (4, .int a4)]) hx hb d_Mo_isSealed_56 hl (k := 1) rfl (by rw [e_x5]; rfl) (by decide) rfl (fun ls hl => ?_)
            refine lv_goto (tgt := 14) hx hb d_Mo_isSealed_59 (by decide) ?_
            exact ih_14 (k + 1) 0 x5 _ _ _ lk (nb_s e_x5 hk) (Or.inl rfl) (z_m hm_14 lk) hI (lv_sub hl [0, 1, 2, 3, 4, 5] rfl)
          · refine lv_iconst (v := 1) hx hb d_Mo_isSealed_49 (by decide) ?_
            refine lv_goto (tgt := 54) hx hb d_Mo_isSealed_50 (by decide) ?_
            refine lv_istore (lv' := [(5, .int 1), (6, .int y6), (0, .ref o), (1, .int a1), (2, .long n2), (4, .int a4)]) hx hb d_Mo_isSealed_54 hl (by decide) rfl (fun ls hl => ?_)
            obtain ⟨x6, e_x6⟩ : ∃ ww9 : Int32, ww9 = y6 + 1 := ⟨_, rfl⟩
            refine lv_iinc (v := x6) (lv' := [(6, .int x6), (5, .int 1), (0, .ref o), (1, .int a1), (2, .long n2), (4, .int a4)]) hx hb d_Mo_isSealed_56 hl (k := 1) rfl (by rw [e_x6]; rfl) (by decide) rfl (fun ls hl => ?_)
            refine lv_goto (tgt := 14) hx hb d_Mo_isSealed_59 (by decide) ?_
            exact ih_14 (k + 1) 1 x6 _ _ _ lk (nb_s e_x6 hk) (Or.inr rfl) (z_m hm_14 lk) hI (lv_sub hl [0, 1, 2, 3, 4, 5] rfl)
  exact L_14 _ 0 1 0 _ _ _ (Nat.zero_le _) rfl (Or.inr rfl) (Nat.lt_succ_self _) hI (lv_sub hl [0, 1, 2, 3, 4, 5] rfl)

abbrev rm_Mo_takeBody : Room := { frames := 5, cells := 0, slots := 0, locals := 117 }
set_option maxHeartbeats 4000000 in
set_option maxRecDepth 100000 in
theorem c_Mo_takeBody (l : Launch) {D : gw_D} {Hs : Heap} {G : gw_G} (o : Nat) (q : Nat → Nat) (B : Nat) (t0 : Int32) (f0 l0 g0 : Nat) (fu fn fx fi : Nat → Int32) (fl : Nat → Int64) (hM : mdl D G o q B t0 f0 l0 g0 fu fn fx fi fl) (a1 : Int32) (s1 : Nat) (ha1 : a1 = nI s1) (hs1 : s1 < 16) (a4 : Int32) (b1 : Nat) (ha4 : a4 = nI b1) (hb1 : b1 ≤ 204) (hb4 : 4 ≤ b1) : Met l y_Mo_takeBody (Cond.code y_Mo_takeBody b_Mo_takeBody 8 (some .int) :: tb) rm_Mo_takeBody (gw_Pc D Hs G [.ref o, .int a1, .int a4]) (gw_Qi D Hs (fun _ G1 => ∃ g1, mdl D G1 o q B t0 f0 l0 g1 fu fn fx fi fl ∧ gw_fr (mown o q) G G1)) 0 0 (gw_A Hs) := by
  refine gw_met (by decide) (Nat.le_of_ble_eq_true rfl) ?_
  intro p e s m args below meth c M hK hr hlo hin hI ls hl
  have hx := M.1
  have hb := M.2.1
  have hl : lv_has ls 8 [(0, .ref o), (1, .int a1), (2, .int a4)] := hl
  have hf : gw_fr (mown o q) G G := gw_fr.rf
  refine lv_aload_n hx hb d_Mo_takeBody_0 rfl (lv_at hl 0 rfl) ?_
  refine lv_iload_n hx hb d_Mo_takeBody_1 rfl (lv_at hl 1 rfl) ?_
  refine lv_iload_n hx hb d_Mo_takeBody_2 rfl (lv_at hl 2 rfl) ?_
  refine gw_Vv (As := [.int a1, .int a4]) (rest := []) M hK hI (c_Mo_turnBody l o q B t0 f0 l0 g0 fu fn fx fi fl hM a1 s1 ha1 hs1 a4 b1 ha4 hb1) k_Mo_turnBody m_Mo_157 hM.O (ci := 6) rfl (fun x hx => ⟨_, hx⟩) rfl hl.1 rfl (Nat.le_of_ble_eq_true rfl) ⟨rfl, rfl, ⟨Nat.le_of_ble_eq_true rfl, Nat.le_of_ble_eq_true rfl⟩, ⟨Nat.le_of_ble_eq_true rfl, Nat.le_of_ble_eq_true rfl⟩⟩ d_Mo_takeBody_3 (fun G9 H locs hw hI => ?_)
  rw [hw] at hI
  refine lv_aload_n hx hb d_Mo_takeBody_6 rfl (lv_at hl 0 rfl) ?_
  refine gw_get M hK hI hM.O i_Mo rfl 18 (by decide) f_Mo_60 rfl (Pv := fun v => v = .ref (q 18)) (fun x hx => ⟨_, _, hx, rfl, rfl⟩) d_Mo_takeBody_7 (fun v hv => ?_)
  subst hv
  refine lv_bipush (v := 16) hx hb d_Mo_takeBody_10 (by decide) ?_
  refine lv_iload_n hx hb d_Mo_takeBody_12 rfl (lv_at hl 2 rfl) ?_
  refine lv_iadd hx hb d_Mo_takeBody_13 ?_
  refine lv_iconst (v := 2) hx hb d_Mo_takeBody_14 (by decide) ?_
  refine lv_isub hx hb d_Mo_takeBody_15 ?_
  refine gw_iald M hK hI hM.k18 (nb_in (nb_sub (nb_aa (k := 16) rfl ha4) 2) (by omega) (by decide)) d_Mo_takeBody_16 (fun x2 h_x2 => ?_)
  refine lv_istore_n (lv' := [(3, .int x2), (0, .ref o), (1, .int a1), (2, .int a4)]) hx hb d_Mo_takeBody_17 rfl hl (by decide) rfl (fun ls hl => ?_)
  obtain ⟨y3, hy3⟩ : ∃ z, z = x2 := ⟨_, rfl⟩
  rw [← hy3] at hl h_x2
  obtain ⟨p9, hp9, hp8⟩ : ∃ p, y3 = nI p ∧ p < 256 := ⟨uN y3, uN_eq, h_x2⟩
  have e42 : a4 - 2 = nI (b1 - 2) := nb_sub ha4 2
  refine lv_aload_n hx hb d_Mo_takeBody_18 rfl (lv_at hl 1 rfl) ?_
  refine gw_get M hK hI hM.O i_Mo rfl 18 (by decide) f_Mo_60 rfl (Pv := fun v => v = .ref (q 18)) (fun x hx => ⟨_, _, hx, rfl, rfl⟩) d_Mo_takeBody_19 (fun v hv => ?_)
  subst hv
  refine lv_bipush (v := 16) hx hb d_Mo_takeBody_22 (by decide) ?_
  refine lv_iload_n hx hb d_Mo_takeBody_24 rfl (lv_at hl 3 rfl) ?_
  refine lv_iadd hx hb d_Mo_takeBody_25 ?_
  refine lv_iconst (v := 1) hx hb d_Mo_takeBody_26 (by decide) ?_
  refine lv_isub hx hb d_Mo_takeBody_27 ?_
  refine gw_iald M hK hI hM.k18 (nb_in (nb_sub (nb_aa (k := 16) rfl ha4) 1) (by omega) (by decide)) d_Mo_takeBody_28 (fun x3 h_x3 => ?_)
  refine lv_istore (lv' := [(4, .int x3), (3, .int y3), (0, .ref o), (1, .int a1), (2, .int a4)]) hx hb d_Mo_takeBody_29 hl (by decide) rfl (fun ls hl => ?_)
  refine lv_iload_n hx hb d_Mo_takeBody_31 rfl (lv_at hl 1 rfl) ?_
  refine lv_iload_n hx hb d_Mo_takeBody_32 rfl (lv_at hl 4 rfl) ?_
  refine lv_iconst (v := 2) hx hb d_Mo_takeBody_33 (by decide) ?_
  refine lv_isub hx hb d_Mo_takeBody_34 ?_
  have J_43 : ∀ (j43 : Int32) (H : Heap) (locs : List Loc) (ls : Array Slot), (j43 = 0 ∨ p9 ≤ b1 - 2) → gw_I D Hs G s.heap H locs → lv_has ls 8 [(4, .int x3), (3, .int y3), (0, .ref o), (1, .int a1), (2, .int a4)] → W p l e rm_Mo_takeBody s m args below meth c H locs 0 0 (MQ below (gw_Qi D Hs (fun _ G1 => ∃ g1, mdl D G1 o q B t0 f0 l0 g1 fu fn fx fi fl ∧ gw_fr (mown o q) G G1)) args s 0 0 (gw_A Hs)) (F0 m 43 ls [.int j43]) := by
    intro j43 H locs ls hj43 hI hl
    refine lv_istore (lv' := [(5, .int j43), (4, .int x3), (3, .int y3), (0, .ref o), (1, .int a1), (2, .int a4)]) hx hb d_Mo_takeBody_43 hl (by decide) rfl (fun ls hl => ?_)
    refine lv_iconst (v := 1) hx hb d_Mo_takeBody_45 (by decide) ?_
    refine lv_istore (lv' := [(6, .int 1), (5, .int j43), (4, .int x3), (3, .int y3), (0, .ref o), (1, .int a1), (2, .int a4)]) hx hb d_Mo_takeBody_46 hl (by decide) rfl (fun ls hl => ?_)
    have L_48 : ∀ (n9 : Nat) (k : Nat) (y4 : Int32) (y5 : Int32) (y6 : Int32) (H : Heap) (locs : List Loc) (ls : Array Slot), k ≤ p9 + 1 → 1 ≤ k → y6 = nI k → (y5 = 0 ∨ p9 ≤ b1 - 2) → p9 + 1 - k < n9 → gw_I D Hs G s.heap H locs → lv_has ls 8 [(6, .int y6), (5, .int y5), (4, .int y4), (3, .int y3), (0, .ref o), (1, .int a1), (2, .int a4)] → W p l e rm_Mo_takeBody s m args below meth c H locs 0 0 (MQ below (gw_Qi D Hs (fun _ G1 => ∃ g1, mdl D G1 o q B t0 f0 l0 g1 fu fn fx fi fl ∧ gw_fr (mown o q) G G1)) args s 0 0 (gw_A Hs)) (F0 m 48 ls []) := by
      intro n9
      induction n9 with
      | zero =>
        intro k y4 y5 y6 H locs ls bk bk1 hk h5 hm hI hl
        exact absurd hm (Nat.not_lt_zero _)
      | succ n9 ih_48 =>
        intro k y4 y5 y6 H locs ls bk bk1 hk h5 hm_48 hI hl
        refine lv_iload hx hb d_Mo_takeBody_48 (lv_at hl 0 rfl) ?_
        refine lv_iload_n hx hb d_Mo_takeBody_50 rfl (lv_at hl 3 rfl) ?_
        have J_95 : ∀  (H : Heap) (locs : List Loc) (ls : Array Slot), gw_I D Hs G s.heap H locs → lv_has ls 8 [(6, .int y6), (5, .int y5), (4, .int y4), (3, .int y3), (0, .ref o), (1, .int a1), (2, .int a4)] → W p l e rm_Mo_takeBody s m args below meth c H locs 0 0 (MQ below (gw_Qi D Hs (fun _ G1 => ∃ g1, mdl D G1 o q B t0 f0 l0 g1 fu fn fx fi fl ∧ gw_fr (mown o q) G G1)) args s 0 0 (gw_A Hs)) (F0 m 95 ls []) := by
          intro  H locs ls  hI hl
          refine lv_aload_n hx hb d_Mo_takeBody_95 rfl (lv_at hl 4 rfl) ?_
          refine lv_iconst (v := 0) hx hb d_Mo_takeBody_96 (by decide) ?_
          refine gw_put M hK hI hM.O i_Mo t_Mo tk_Mo n_Mo rfl 23 (by decide) f_Mo_168 rfl rfl rfl (kx (mo_ob q t0 (nI f0) (nI l0) (nI 0))) (fun x hx => ⟨_, hx, Nat.le_of_ble_eq_true rfl, rfl⟩) d_Mo_takeBody_97 (fun H locs hI => ?_)
          obtain ⟨G4, hE_G4⟩ : ∃ z9, gw_up G o (kx (mo_ob q t0 (nI f0) (nI l0) (nI 0))) = z9 := ⟨_, rfl⟩
          rw [hE_G4] at hI
          have hf : gw_fr (mown o q) G G4 := hf.tr (by rw [← hE_G4]; exact gw_fr.up (Or.inl rfl))
          have hM : mdl D G4 o q B t0 f0 l0 0 fu fn fx fi fl := by rw [← hE_G4]; exact hM.ob hM.f200 hM.l236 (Nat.zero_le _)
          refine lv_iload hx hb d_Mo_takeBody_100 (lv_at hl 1 rfl) ?_
          refine lv_if_ne (tgt := 110) hx hb d_Mo_takeBody_102 (by decide) (fun c_102 => ?_) (fun c_102 => ?_)
          · have hple : p9 ≤ b1 - 2 := h5.resolve_left c_102
            refine lv_iload hx hb d_Mo_takeBody_110 (lv_at hl 2 rfl) ?_
            refine lv_bipush (v := 59) hx hb d_Mo_takeBody_112 (by decide) ?_
            refine lv_icmp_ne (tgt := 122) hx hb d_Mo_takeBody_114 (by decide) (fun c_114 => ?_) (fun c_114 => ?_)
            · refine lv_iload hx hb d_Mo_takeBody_122 (lv_at hl 2 rfl) ?_
              refine lv_istore (lv' := [(6, .int y4), (5, .int y5), (4, .int y4), (3, .int y3), (0, .ref o), (1, .int a1), (2, .int a4)]) hx hb d_Mo_takeBody_124 hl (by decide) rfl (fun ls hl => ?_)
              refine lv_iload hx hb d_Mo_takeBody_126 (lv_at hl 0 rfl) ?_
              refine lv_if_lt (tgt := 175) hx hb d_Mo_takeBody_128 (by decide) (fun c_128 => ?_) (fun c_128 => ?_)
              · refine lv_aload_n hx hb d_Mo_takeBody_175 rfl (lv_at hl 4 rfl) ?_
                refine lv_iload_n hx hb d_Mo_takeBody_176 rfl (lv_at hl 5 rfl) ?_
                refine lv_iload_n hx hb d_Mo_takeBody_177 rfl (lv_at hl 6 rfl) ?_
                refine gw_Vv (As := [.int a1, .int a4]) (rest := []) M hK hI (c_Mo_turnBody l o q B t0 f0 l0 0 fu fn fx fi fl hM a1 s1 ha1 hs1 a4 b1 ha4 hb1) k_Mo_turnBody m_Mo_157 hM.O (ci := 6) rfl (fun x hx => ⟨_, hx⟩) rfl hl.1 rfl (Nat.le_of_ble_eq_true rfl) ⟨rfl, rfl, ⟨Nat.le_of_ble_eq_true rfl, Nat.le_of_ble_eq_true rfl⟩, ⟨Nat.le_of_ble_eq_true rfl, Nat.le_of_ble_eq_true rfl⟩⟩ d_Mo_takeBody_178 (fun G9 H locs hw hI => ?_)
                rw [hw] at hI
                refine lv_iload hx hb d_Mo_takeBody_181 (lv_at hl 0 rfl) ?_
                exact gw_iret M hr hlo hI d_Mo_takeBody_183 (⟨_, hM, hf⟩)
              · refine lv_aload_n hx hb d_Mo_takeBody_131 rfl (lv_at hl 4 rfl) ?_
                refine lv_iload_n hx hb d_Mo_takeBody_132 rfl (lv_at hl 6 rfl) ?_
                refine lv_iconst (v := 2) hx hb d_Mo_takeBody_133 (by decide) ?_
                refine lv_isub hx hb d_Mo_takeBody_134 ?_
                refine lv_iload_n hx hb d_Mo_takeBody_135 rfl (lv_at hl 3 rfl) ?_
                refine lv_isub hx hb d_Mo_takeBody_136 ?_
                refine lv_topi (fun x6 e_x6 => ?_)
                have hv9 : x6 = nI (b1 - 2 - p9) := (by rw [e_x6]; exact nb_ss e42 hp9 hple)
                subst hv9
                refine gw_put M hK hI hM.O i_Mo t_Mo tk_Mo n_Mo rfl 23 (by decide) f_Mo_168 rfl rfl rfl (kx (mo_ob q t0 (nI f0) (nI l0) (nI (b1 - 2 - p9)))) (fun x hx => ⟨_, hx, Nat.le_of_ble_eq_true rfl, rfl⟩) d_Mo_takeBody_137 (fun H locs hI => ?_)
                obtain ⟨G7, hE_G7⟩ : ∃ z9, gw_up G4 o (kx (mo_ob q t0 (nI f0) (nI l0) (nI (b1 - 2 - p9)))) = z9 := ⟨_, rfl⟩
                rw [hE_G7] at hI
                have hf : gw_fr (mown o q) G G7 := hf.tr (by rw [← hE_G7]; exact gw_fr.up (Or.inl rfl))
                have hM : mdl D G7 o q B t0 f0 l0 (b1 - 2 - p9) fu fn fx fi fl := by rw [← hE_G7]; exact hM.ob hM.f200 hM.l236 (by omega)
                refine lv_iconst (v := 0) hx hb d_Mo_takeBody_140 (by decide) ?_
                refine lv_istore (lv' := [(7, .int 0), (6, .int y4), (5, .int y5), (4, .int y4), (3, .int y3), (0, .ref o), (1, .int a1), (2, .int a4)]) hx hb d_Mo_takeBody_141 hl (by decide) rfl (fun ls hl => ?_)
                have L_143 : ∀ (n9 : Nat) (i : Nat) (y7 : Int32) (H : Heap) (locs : List Loc) (ls : Array Slot), i ≤ b1 - 2 - p9 → y7 = nI i → b1 - 2 - p9 - i < n9 → gw_I D Hs G7 s.heap H locs → lv_has ls 8 [(7, .int y7), (6, .int y4), (0, .ref o), (1, .int a1), (2, .int a4)] → W p l e rm_Mo_takeBody s m args below meth c H locs 0 0 (MQ below (gw_Qi D Hs (fun _ G1 => ∃ g1, mdl D G1 o q B t0 f0 l0 g1 fu fn fx fi fl ∧ gw_fr (mown o q) G G1)) args s 0 0 (gw_A Hs)) (F0 m 143 ls []) := by
                  intro n9
                  induction n9 with
                  | zero =>
                    intro i y7 H locs ls bi hi hm hI hl
                    exact absurd hm (Nat.not_lt_zero _)
                  | succ n9 ih_143 =>
                    intro i y7 H locs ls bi hi hm_143 hI hl
                    refine lv_iload hx hb d_Mo_takeBody_143 (lv_at hl 0 rfl) ?_
                    refine lv_aload_n hx hb d_Mo_takeBody_145 rfl (lv_at hl 2 rfl) ?_
                    refine gw_get M hK hI hM.O i_Mo rfl 23 (by decide) f_Mo_168 rfl (Pv := fun v => v = .int (nI (b1 - 2 - p9))) (fun x hx => ⟨_, _, hx, rfl, rfl⟩) d_Mo_takeBody_146 (fun v hv => ?_)
                    subst hv
                    refine lv_icmp_ge (tgt := 175) hx hb d_Mo_takeBody_149 (by decide) (fun c_149 => ?_) (fun c_149 => ?_)
                    · refine lv_aload_n hx hb d_Mo_takeBody_175 rfl (lv_at hl 2 rfl) ?_
                      refine lv_iload_n hx hb d_Mo_takeBody_176 rfl (lv_at hl 3 rfl) ?_
                      refine lv_iload_n hx hb d_Mo_takeBody_177 rfl (lv_at hl 4 rfl) ?_
                      refine gw_Vv (As := [.int a1, .int a4]) (rest := []) M hK hI (c_Mo_turnBody l o q B t0 f0 l0 (b1 - 2 - p9) fu fn fx fi fl hM a1 s1 ha1 hs1 a4 b1 ha4 hb1) k_Mo_turnBody m_Mo_157 hM.O (ci := 6) rfl (fun x hx => ⟨_, hx⟩) rfl hl.1 rfl (Nat.le_of_ble_eq_true rfl) ⟨rfl, rfl, ⟨Nat.le_of_ble_eq_true rfl, Nat.le_of_ble_eq_true rfl⟩, ⟨Nat.le_of_ble_eq_true rfl, Nat.le_of_ble_eq_true rfl⟩⟩ d_Mo_takeBody_178 (fun G9 H locs hw hI => ?_)
                      rw [hw] at hI
                      refine lv_iload hx hb d_Mo_takeBody_181 (lv_at hl 1 rfl) ?_
                      exact gw_iret M hr hlo hI d_Mo_takeBody_183 (⟨_, hM, hf⟩)
                    · have li : i < b1 - 2 - p9 := nb_lt (n := b1 - 2 - p9) hi c_149 (by omega) (by omega)
                      refine lv_aload_n hx hb d_Mo_takeBody_152 rfl (lv_at hl 2 rfl) ?_
                      refine gw_get M hK hI hM.O i_Mo rfl 22 (by decide) f_Mo_69 rfl (Pv := fun v => v = .ref (q 22)) (fun x hx => ⟨_, _, hx, rfl, rfl⟩) d_Mo_takeBody_153 (fun v hv => ?_)
                      subst hv
                      refine lv_iload hx hb d_Mo_takeBody_156 (lv_at hl 0 rfl) ?_
                      refine lv_aload_n hx hb d_Mo_takeBody_158 rfl (lv_at hl 2 rfl) ?_
                      refine gw_get M hK hI hM.O i_Mo rfl 18 (by decide) f_Mo_60 rfl (Pv := fun v => v = .ref (q 18)) (fun x hx => ⟨_, _, hx, rfl, rfl⟩) d_Mo_takeBody_159 (fun v hv => ?_)
                      subst hv
                      refine lv_bipush (v := 16) hx hb d_Mo_takeBody_162 (by decide) ?_
                      refine lv_iload hx hb d_Mo_takeBody_164 (lv_at hl 0 rfl) ?_
                      refine lv_iadd hx hb d_Mo_takeBody_166 ?_
                      refine gw_iald M hK hI hM.k18 (nb_in (nb_aa (k := 16) rfl hi) (by omega) (by decide)) d_Mo_takeBody_167 (fun x9 h_x9 => ?_)
                      refine gw_iast M hK hI hM.k22 (nb_in hi (by omega)) trivial d_Mo_takeBody_168 (fun H locs hI => ?_)
                      obtain ⟨x10, e_x10⟩ : ∃ ww9 : Int32, ww9 = y7 + 1 := ⟨_, rfl⟩
                      refine lv_iinc (v := x10) (lv' := [(7, .int x10), (6, .int y4), (0, .ref o), (1, .int a1), (2, .int a4)]) hx hb d_Mo_takeBody_169 hl (k := 0) rfl (by rw [e_x10]; rfl) (by decide) rfl (fun ls hl => ?_)
                      refine lv_goto (tgt := 143) hx hb d_Mo_takeBody_172 (by decide) ?_
                      exact ih_143 (i + 1) x10 _ _ _ li (nb_s e_x10 hi) (z_m hm_143 li) hI (lv_sub hl [0, 1, 2, 3, 4] rfl)
                exact L_143 _ 0 0 _ _ _ (Nat.zero_le _) rfl (Nat.lt_succ_self _) hI (lv_sub hl [0, 1, 5, 6, 7] rfl)
            · refine lv_bipush (v := (-6)) hx hb d_Mo_takeBody_117 (by decide) ?_
              refine lv_goto (tgt := 124) hx hb d_Mo_takeBody_119 (by decide) ?_
              refine lv_istore (lv' := [(6, .int (-6)), (5, .int y5), (4, .int y4), (3, .int y3), (0, .ref o), (1, .int a1), (2, .int a4)]) hx hb d_Mo_takeBody_124 hl (by decide) rfl (fun ls hl => ?_)
              refine lv_iload hx hb d_Mo_takeBody_126 (lv_at hl 0 rfl) ?_
              refine lv_if_lt (tgt := 175) hx hb d_Mo_takeBody_128 (by decide) (fun c_128 => ?_) (fun q9 => absurd (by decide) q9)
              refine lv_aload_n hx hb d_Mo_takeBody_175 rfl (lv_at hl 4 rfl) ?_
              refine lv_iload_n hx hb d_Mo_takeBody_176 rfl (lv_at hl 5 rfl) ?_
              refine lv_iload_n hx hb d_Mo_takeBody_177 rfl (lv_at hl 6 rfl) ?_
              refine gw_Vv (As := [.int a1, .int a4]) (rest := []) M hK hI (c_Mo_turnBody l o q B t0 f0 l0 0 fu fn fx fi fl hM a1 s1 ha1 hs1 a4 b1 ha4 hb1) k_Mo_turnBody m_Mo_157 hM.O (ci := 6) rfl (fun x hx => ⟨_, hx⟩) rfl hl.1 rfl (Nat.le_of_ble_eq_true rfl) ⟨rfl, rfl, ⟨Nat.le_of_ble_eq_true rfl, Nat.le_of_ble_eq_true rfl⟩, ⟨Nat.le_of_ble_eq_true rfl, Nat.le_of_ble_eq_true rfl⟩⟩ d_Mo_takeBody_178 (fun G9 H locs hw hI => ?_)
              rw [hw] at hI
              refine lv_iload hx hb d_Mo_takeBody_181 (lv_at hl 0 rfl) ?_
              exact gw_iret M hr hlo hI d_Mo_takeBody_183 (⟨_, hM, hf⟩)
          · refine lv_bipush (v := (-5)) hx hb d_Mo_takeBody_105 (by decide) ?_
            refine lv_goto (tgt := 124) hx hb d_Mo_takeBody_107 (by decide) ?_
            refine lv_istore (lv' := [(6, .int (-5)), (5, .int y5), (4, .int y4), (3, .int y3), (0, .ref o), (1, .int a1), (2, .int a4)]) hx hb d_Mo_takeBody_124 hl (by decide) rfl (fun ls hl => ?_)
            refine lv_iload hx hb d_Mo_takeBody_126 (lv_at hl 0 rfl) ?_
            refine lv_if_lt (tgt := 175) hx hb d_Mo_takeBody_128 (by decide) (fun c_128 => ?_) (fun q9 => absurd (by decide) q9)
            refine lv_aload_n hx hb d_Mo_takeBody_175 rfl (lv_at hl 4 rfl) ?_
            refine lv_iload_n hx hb d_Mo_takeBody_176 rfl (lv_at hl 5 rfl) ?_
            refine lv_iload_n hx hb d_Mo_takeBody_177 rfl (lv_at hl 6 rfl) ?_
            refine gw_Vv (As := [.int a1, .int a4]) (rest := []) M hK hI (c_Mo_turnBody l o q B t0 f0 l0 0 fu fn fx fi fl hM a1 s1 ha1 hs1 a4 b1 ha4 hb1) k_Mo_turnBody m_Mo_157 hM.O (ci := 6) rfl (fun x hx => ⟨_, hx⟩) rfl hl.1 rfl (Nat.le_of_ble_eq_true rfl) ⟨rfl, rfl, ⟨Nat.le_of_ble_eq_true rfl, Nat.le_of_ble_eq_true rfl⟩, ⟨Nat.le_of_ble_eq_true rfl, Nat.le_of_ble_eq_true rfl⟩⟩ d_Mo_takeBody_178 (fun G9 H locs hw hI => ?_)
            rw [hw] at hI
            refine lv_iload hx hb d_Mo_takeBody_181 (lv_at hl 0 rfl) ?_
            exact gw_iret M hr hlo hI d_Mo_takeBody_183 (⟨_, hM, hf⟩)
        refine lv_icmp_gt (tgt := 95) hx hb d_Mo_takeBody_51 (by decide) (fun c_51 => ?_) (fun c_51 => ?_)
        · exact J_95  _ _ _  hI (lv_sub hl [0, 1, 2, 3, 4, 5, 6] rfl)
        · have lk : k ≤ p9 := nb_le (n := p9) hk (by rw [← hp9]; exact c_51) (by omega) (by omega)
          refine lv_iload hx hb d_Mo_takeBody_54 (lv_at hl 1 rfl) ?_
          refine lv_if_eq (tgt := 95) hx hb d_Mo_takeBody_56 (by decide) (fun c_56 => ?_) (fun c_56 => ?_)
          · exact J_95  _ _ _  hI (lv_sub hl [0, 1, 2, 3, 4, 5, 6] rfl)
          · have hple : p9 ≤ b1 - 2 := h5.resolve_left c_56
            refine lv_aload_n hx hb d_Mo_takeBody_59 rfl (lv_at hl 4 rfl) ?_
            refine gw_get M hK hI hM.O i_Mo rfl 18 (by decide) f_Mo_60 rfl (Pv := fun v => v = .ref (q 18)) (fun x hx => ⟨_, _, hx, rfl, rfl⟩) d_Mo_takeBody_60 (fun v hv => ?_)
            subst hv
            refine lv_bipush (v := 16) hx hb d_Mo_takeBody_63 (by decide) ?_
            refine lv_iload_n hx hb d_Mo_takeBody_65 rfl (lv_at hl 6 rfl) ?_
            refine lv_iadd hx hb d_Mo_takeBody_66 ?_
            refine lv_iconst (v := 2) hx hb d_Mo_takeBody_67 (by decide) ?_
            refine lv_isub hx hb d_Mo_takeBody_68 ?_
            refine lv_iload_n hx hb d_Mo_takeBody_69 rfl (lv_at hl 3 rfl) ?_
            refine lv_isub hx hb d_Mo_takeBody_70 ?_
            refine lv_iload hx hb d_Mo_takeBody_71 (lv_at hl 0 rfl) ?_
            refine lv_iadd hx hb d_Mo_takeBody_73 ?_
            refine lv_iconst (v := 1) hx hb d_Mo_takeBody_74 (by decide) ?_
            refine lv_isub hx hb d_Mo_takeBody_75 ?_
            refine gw_iald M hK hI hM.k18 (nb_in (nb_sub (nb_aa (nb_ss (nb_sub (nb_aa (k := 16) rfl ha4) 2) hp9 (by omega)) hk) 1) (by omega) (by decide)) d_Mo_takeBody_76 (fun x13 h_x13 => ?_)
            refine lv_iload hx hb d_Mo_takeBody_77 (lv_at hl 0 rfl) ?_
            refine lv_icmp_ne (tgt := 86) hx hb d_Mo_takeBody_79 (by decide) (fun c_79 => ?_) (fun c_79 => ?_)
            · refine lv_iconst (v := 0) hx hb d_Mo_takeBody_86 (by decide) ?_
              refine lv_istore (lv' := [(5, .int 0), (6, .int y6), (4, .int y4), (3, .int y3), (0, .ref o), (1, .int a1), (2, .int a4)]) hx hb d_Mo_takeBody_87 hl (by decide) rfl (fun ls hl => ?_)
              obtain ⟨x14, e_x14⟩ : ∃ ww9 : Int32, ww9 = y6 + 1 := ⟨_, rfl⟩
              refine lv_iinc (v := x14) (lv' := [(6, .int x14), (5, .int 0), (4, .int y4), (3, .int y3), (0, .ref o), (1, .int a1), (2, .int a4)]) hx hb d_Mo_takeBody_89 hl (k := 1) rfl (by rw [e_x14]; rfl) (by decide) rfl (fun ls hl => ?_)
              refine lv_goto (tgt := 48) hx hb d_Mo_takeBody_92 (by decide) ?_
              exact ih_48 (k + 1) y4 0 x14 _ _ _ (by omega) (by omega) (nb_s e_x14 hk) (Or.inl rfl) (by have hm := hm_48; omega) hI (lv_sub hl [0, 1, 2, 3, 4, 5, 6] rfl)
            · refine lv_iconst (v := 1) hx hb d_Mo_takeBody_82 (by decide) ?_
              refine lv_goto (tgt := 87) hx hb d_Mo_takeBody_83 (by decide) ?_
              refine lv_istore (lv' := [(5, .int 1), (6, .int y6), (4, .int y4), (3, .int y3), (0, .ref o), (1, .int a1), (2, .int a4)]) hx hb d_Mo_takeBody_87 hl (by decide) rfl (fun ls hl => ?_)
              obtain ⟨x15, e_x15⟩ : ∃ ww9 : Int32, ww9 = y6 + 1 := ⟨_, rfl⟩
              refine lv_iinc (v := x15) (lv' := [(6, .int x15), (5, .int 1), (4, .int y4), (3, .int y3), (0, .ref o), (1, .int a1), (2, .int a4)]) hx hb d_Mo_takeBody_89 hl (k := 1) rfl (by rw [e_x15]; rfl) (by decide) rfl (fun ls hl => ?_)
              refine lv_goto (tgt := 48) hx hb d_Mo_takeBody_92 (by decide) ?_
              exact ih_48 (k + 1) y4 1 x15 _ _ _ (by omega) (by omega) (nb_s e_x15 hk) (Or.inr hple) (by have hm := hm_48; omega) hI (lv_sub hl [0, 1, 2, 3, 4, 5, 6] rfl)
    exact L_48 _ 1 x3 j43 1 _ _ _ (by omega) (by decide) rfl hj43 (Nat.lt_succ_self _) hI (lv_sub hl [0, 1, 2, 3, 4, 5, 6] rfl)
  refine lv_icmp_gt (tgt := 42) hx hb d_Mo_takeBody_35 (by decide) (fun c_35 => ?_) (fun c_35 => ?_)
  · refine lv_iconst (v := 0) hx hb d_Mo_takeBody_42 (by decide) ?_
    exact J_43 (0 : Int32) _ _ _ (Or.inl rfl) hI (lv_sub hl [0, 1, 2, 3, 4] rfl)
  · have hple : p9 ≤ b1 - 2 := nb_le (n := b1 - 2) hp9 (by rw [← e42]; exact c_35) (by omega) (by omega)
    refine lv_iconst (v := 1) hx hb d_Mo_takeBody_38 (by decide) ?_
    refine lv_goto (tgt := 43) hx hb d_Mo_takeBody_39 (by decide) ?_
    exact J_43 (1 : Int32) _ _ _ (Or.inr hple) hI (lv_sub hl [0, 1, 2, 3, 4] rfl)

abbrev rm_Mo_open : Room := { frames := 6, cells := 0, slots := 0, locals := 147 }
set_option maxHeartbeats 4000000 in
set_option maxRecDepth 100000 in
theorem c_Mo_open (l : Launch) {D : gw_D} {Hs : Heap} {G : gw_G} (o : Nat) (q : Nat → Nat) (B : Nat) (t0 : Int32) (f0 l0 g0 : Nat) (fu fn fx fi : Nat → Int32) (fl : Nat → Int64) (hM : mdl D G o q B t0 f0 l0 g0 fu fn fx fi fl) (hB : B ≤ 600) : Met l y_Mo_open (Cond.code y_Mo_open b_Mo_open 8 (some .int) :: tb) rm_Mo_open (gw_Pc D Hs G [.ref o]) (gw_Qi D Hs (fun _ G1 => ∃ g1 B1, B1 ≤ B + 1 ∧ mdl D G1 o q B1 0 f0 l0 g1 fu fn fx fi fl ∧ gw_fr (mown o q) G G1)) 0 0 (gw_A Hs) := by
  refine gw_met (by decide) (Nat.le_of_ble_eq_true rfl) ?_
  intro p e s m args below meth c M hK hr hlo hin hI ls hl
  have hx := M.1
  have hb := M.2.1
  have hl : lv_has ls 8 [(0, .ref o)] := hl
  have hf : gw_fr (mown o q) G G := gw_fr.rf
  have hl236 := hM.l236
  refine lv_aload_n hx hb d_Mo_open_0 rfl (lv_at hl 0 rfl) ?_
  refine lv_iconst (v := 0) hx hb d_Mo_open_1 (by decide) ?_
  refine gw_put M hK hI hM.O i_Mo t_Mo tk_Mo n_Mo rfl 0 (by decide) f_Mo_94 rfl rfl rfl (kx (mo_ob q 0 (nI f0) (nI l0) (nI g0))) (fun x hx => ⟨_, hx, Nat.le_of_ble_eq_true rfl, rfl⟩) d_Mo_open_2 (fun H locs hI => ?_)
  obtain ⟨G1, hE_G1⟩ : ∃ z9, gw_up G o (kx (mo_ob q 0 (nI f0) (nI l0) (nI g0))) = z9 := ⟨_, rfl⟩
  rw [hE_G1] at hI
  have hf : gw_fr (mown o q) G G1 := hf.tr (by rw [← hE_G1]; exact gw_fr.up (Or.inl rfl))
  have hM : mdl D G1 o q B 0 f0 l0 g0 fu fn fx fi fl := by rw [← hE_G1]; exact hM.ob hM.f200 hM.l236 hM.g204
  refine lv_aload_n hx hb d_Mo_open_5 rfl (lv_at hl 0 rfl) ?_
  refine gw_get M hK hI hM.O i_Mo rfl 19 (by decide) f_Mo_151 rfl (Pv := fun v => v = .int (nI l0)) (fun x hx => ⟨_, _, hx, rfl, rfl⟩) d_Mo_open_6 (fun v hv => ?_)
  subst hv
  refine lv_bipush (v := 36) hx hb d_Mo_open_9 (by decide) ?_
  refine lv_icmp_lt (tgt := 23) hx hb d_Mo_open_11 (by decide) (fun c_11 => ?_) (fun c_11 => ?_)
  · refine lv_iconst (v := (-1)) hx hb d_Mo_open_23 (by decide) ?_
    exact gw_iret M hr hlo hI d_Mo_open_24 (⟨_, B, Nat.le_succ _, hM, hf⟩)
  · have h36 : 36 ≤ l0 := nb_ge' (n := 36) rfl c_11 (by decide) (by omega)
    refine lv_aload_n hx hb d_Mo_open_14 rfl (lv_at hl 0 rfl) ?_
    refine gw_get M hK hI hM.O i_Mo rfl 19 (by decide) f_Mo_151 rfl (Pv := fun v => v = .int (nI l0)) (fun x hx => ⟨_, _, hx, rfl, rfl⟩) d_Mo_open_15 (fun v hv => ?_)
    subst hv
    refine lv_iconst (v := 4) hx hb d_Mo_open_18 (by decide) ?_
    refine lv_irem hx hb d_Mo_open_19 (by decide) ?_
    refine lv_if_eq (tgt := 25) hx hb d_Mo_open_20 (by decide) (fun c_20 => ?_) (fun c_20 => ?_)
    · refine lv_aload_n hx hb d_Mo_open_25 rfl (lv_at hl 0 rfl) ?_
      refine lv_aload_n hx hb d_Mo_open_26 rfl (lv_at hl 0 rfl) ?_
      refine lv_iconst (v := 0) hx hb d_Mo_open_27 (by decide) ?_
      refine gw_Vl (As := [.int 0]) (rest := [.ref o]) M hK hI (c_Mo_fourBytes l o q B 0 f0 l0 g0 fu fn fx fi fl hM (0 : Int32) 0 rfl (by decide)) k_Mo_fourBytes m_Mo_171 hM.O (ci := 6) rfl (fun x hx => ⟨_, hx⟩) rfl hl.1 rfl (Nat.le_of_ble_eq_true rfl) ⟨rfl, rfl, ⟨Nat.le_of_ble_eq_true rfl, Nat.le_of_ble_eq_true rfl⟩, ⟨Nat.le_of_ble_eq_true rfl, Nat.le_of_ble_eq_true rfl⟩⟩ d_Mo_open_28 (fun x2 G9 H locs hw hI => ?_)
      rw [hw] at hI
      refine lv_l2i hx hb d_Mo_open_31 rfl ?_
      refine gw_Vi (As := [.int ((x2).toInt32)]) (rest := []) M hK hI (c_Mo_finda l o q B 0 f0 l0 g0 fu fn fx fi fl hM ((x2).toInt32)) k_Mo_find m_Mo_135 hM.O (ci := 6) rfl (fun x hx => ⟨_, hx⟩) rfl hl.1 rfl (Nat.le_of_ble_eq_true rfl) ⟨rfl, rfl, ⟨Nat.le_of_ble_eq_true rfl, Nat.le_of_ble_eq_true rfl⟩, ⟨Nat.le_of_ble_eq_true rfl, Nat.le_of_ble_eq_true rfl⟩⟩ d_Mo_open_32 (fun x3 G9 H locs hw hI => ?_)
      obtain ⟨h_x3, hw⟩ := hw
      rw [hw] at hI
      refine lv_istore_n (lv' := [(1, .int x3), (0, .ref o)]) hx hb d_Mo_open_35 rfl hl (by decide) rfl (fun ls hl => ?_)
      refine lv_iload_n hx hb d_Mo_open_36 rfl (lv_at hl 0 rfl) ?_
      refine lv_if_ge (tgt := 43) hx hb d_Mo_open_37 (by decide) (fun c_37 => ?_) (fun c_37 => ?_)
      · obtain ⟨s1, hs1, ha1⟩ : ∃ s, s < 16 ∧ x3 = nI s := h_x3.resolve_left (fun q9 => absurd c_37 (by rw [q9]; decide))
        refine lv_aload_n hx hb d_Mo_open_43 rfl (lv_at hl 1 rfl) ?_
        refine lv_iconst (v := 4) hx hb d_Mo_open_44 (by decide) ?_
        refine gw_Vl (As := [.int 4]) (rest := []) M hK hI (c_Mo_fourBytes l o q B 0 f0 l0 g0 fu fn fx fi fl hM (4 : Int32) 4 rfl (by decide)) k_Mo_fourBytes m_Mo_171 hM.O (ci := 6) rfl (fun x hx => ⟨_, hx⟩) rfl hl.1 rfl (Nat.le_of_ble_eq_true rfl) ⟨rfl, rfl, ⟨Nat.le_of_ble_eq_true rfl, Nat.le_of_ble_eq_true rfl⟩, ⟨Nat.le_of_ble_eq_true rfl, Nat.le_of_ble_eq_true rfl⟩⟩ d_Mo_open_45 (fun x4 G9 H locs hw hI => ?_)
        rw [hw] at hI
        refine lv_lstore_n (lv' := [(2, .long x4), (1, .int x3), (0, .ref o)]) hx hb d_Mo_open_48 rfl hl (by decide) rfl (fun ls hl => ?_)
        refine lv_aload_n hx hb d_Mo_open_49 rfl (lv_at hl 2 rfl) ?_
        refine gw_get M hK hI hM.O i_Mo rfl 10 (by decide) f_Mo_39 rfl (Pv := fun v => v = .ref (q 10)) (fun x hx => ⟨_, _, hx, rfl, rfl⟩) d_Mo_open_50 (fun v hv => ?_)
        subst hv
        refine lv_iload_n hx hb d_Mo_open_53 rfl (lv_at hl 1 rfl) ?_
        refine gw_lald M hK hI hM.k10 (nb_in ha1 hs1) d_Mo_open_54 (fun x5 h_x5 => ?_)
        refine lv_aload_n hx hb d_Mo_open_55 rfl (lv_at hl 2 rfl) ?_
        refine gw_get M hK hI hM.O i_Mo rfl 6 (by decide) f_Mo_26 rfl (Pv := fun v => v = .ref (q 6)) (fun x hx => ⟨_, _, hx, rfl, rfl⟩) d_Mo_open_56 (fun v hv => ?_)
        subst hv
        refine lv_iload_n hx hb d_Mo_open_59 rfl (lv_at hl 1 rfl) ?_
        refine gw_iald M hK hI hM.k6 (nb_in ha1 hs1) d_Mo_open_60 (fun x6 h_x6 => ?_)
        refine lv_i2l hx hb d_Mo_open_61 rfl ?_
        refine lv_lsub hx hb d_Mo_open_62 ?_
        refine lv_topl (fun x7 e_x7 => ?_)
        refine lv_lstore (lv' := [(4, .long x7), (2, .long x4), (1, .int x3), (0, .ref o)]) hx hb d_Mo_open_63 hl (by decide) rfl (fun ls hl => ?_)
        refine lv_aload_n hx hb d_Mo_open_65 rfl (lv_at hl 3 rfl) ?_
        refine gw_get M hK hI hM.O i_Mo rfl 7 (by decide) f_Mo_29 rfl (Pv := fun v => v = .ref (q 7)) (fun x hx => ⟨_, _, hx, rfl, rfl⟩) d_Mo_open_66 (fun v hv => ?_)
        subst hv
        refine lv_iload_n hx hb d_Mo_open_69 rfl (lv_at hl 2 rfl) ?_
        refine gw_zaldx M hK hI hM.k7 (nb_in ha1 hs1) d_Mo_open_70 ?_
        rw [show (x3).toNatClampNeg = s1 from (nb_cl ha1)]
        have J_92 : ∀ (j2 : Int64) (H : Heap) (locs : List Loc) (ls : Array Slot), gw_I D Hs G1 s.heap H locs → lv_has ls 8 [(4, .long x7), (2, .long j2), (1, .int x3), (0, .ref o)] → W p l e rm_Mo_open s m args below meth c H locs 0 0 (MQ below (gw_Qi D Hs (fun _ G1 => ∃ g1 B1, B1 ≤ B + 1 ∧ mdl D G1 o q B1 0 f0 l0 g1 fu fn fx fi fl ∧ gw_fr (mown o q) G G1)) args s 0 0 (gw_A Hs)) (F0 m 92 ls []) := by
          intro j2 H locs ls  hI hl
          refine lv_lload_n hx hb d_Mo_open_92 rfl (lv_at hl 1 rfl) ?_
          refine lv_lconst (v := 1) hx hb d_Mo_open_93 (by decide) ?_
          refine W.lcmp hx hb d_Mo_open_94 ?_
          refine lv_if_lt (tgt := 124) hx hb d_Mo_open_95 (by decide) (fun c_95 => ?_) (fun c_95 => ?_)
          · refine lv_aload_n hx hb d_Mo_open_124 rfl (lv_at hl 3 rfl) ?_
            refine gw_get M hK hI hM.O i_Mo rfl 12 (by decide) f_Mo_45 rfl (Pv := fun v => v = .ref (q 12)) (fun x hx => ⟨_, _, hx, rfl, rfl⟩) d_Mo_open_125 (fun v hv => ?_)
            subst hv
            refine lv_iload_n hx hb d_Mo_open_128 rfl (lv_at hl 2 rfl) ?_
            refine lv_dup2_11 hx hb d_Mo_open_129 rfl rfl ?_
            refine gw_iald M hK hI hM.k12 (nb_in ha1 hs1) d_Mo_open_130 (fun x8 h_x8 => ?_)
            refine lv_iconst (v := 1) hx hb d_Mo_open_131 (by decide) ?_
            refine lv_iadd hx hb d_Mo_open_132 ?_
            refine lv_topi (fun x9 e_x9 => ?_)
            refine gw_iast M hK hI hM.k12 (nb_in ha1 hs1) trivial d_Mo_open_133 (fun H locs hI => ?_)
            refine lv_bipush (v := (-3)) hx hb d_Mo_open_134 (by decide) ?_
            exact gw_iret M hr hlo hI d_Mo_open_136 (⟨_, B, Nat.le_succ _, hM, hf⟩)
          · refine lv_lload_n hx hb d_Mo_open_98 rfl (lv_at hl 1 rfl) ?_
            refine lv_aload_n hx hb d_Mo_open_99 rfl (lv_at hl 3 rfl) ?_
            refine lv_iload_n hx hb d_Mo_open_100 rfl (lv_at hl 2 rfl) ?_
            refine gw_Vl (As := [.int x3]) (rest := [.long j2]) M hK hI (c_Mo_greatest l o q B 0 f0 l0 g0 fu fn fx fi fl hM x3 s1 ha1 hs1) k_Mo_greatest m_Mo_144 hM.O (ci := 6) rfl (fun x hx => ⟨_, hx⟩) rfl hl.1 rfl (Nat.le_of_ble_eq_true rfl) ⟨rfl, rfl, ⟨Nat.le_of_ble_eq_true rfl, Nat.le_of_ble_eq_true rfl⟩, ⟨Nat.le_of_ble_eq_true rfl, Nat.le_of_ble_eq_true rfl⟩⟩ d_Mo_open_101 (fun x10 G9 H locs hw hI => ?_)
            obtain ⟨h_x10, hw⟩ := hw
            rw [hw] at hI
            subst h_x10
            refine W.lcmp hx hb d_Mo_open_104 ?_
            refine lv_if_gt (tgt := 124) hx hb d_Mo_open_105 (by decide) (fun c_105 => ?_) (fun c_105 => ?_)
            · refine lv_aload_n hx hb d_Mo_open_124 rfl (lv_at hl 3 rfl) ?_
              refine gw_get M hK hI hM.O i_Mo rfl 12 (by decide) f_Mo_45 rfl (Pv := fun v => v = .ref (q 12)) (fun x hx => ⟨_, _, hx, rfl, rfl⟩) d_Mo_open_125 (fun v hv => ?_)
              subst hv
              refine lv_iload_n hx hb d_Mo_open_128 rfl (lv_at hl 2 rfl) ?_
              refine lv_dup2_11 hx hb d_Mo_open_129 rfl rfl ?_
              refine gw_iald M hK hI hM.k12 (nb_in ha1 hs1) d_Mo_open_130 (fun x11 h_x11 => ?_)
              refine lv_iconst (v := 1) hx hb d_Mo_open_131 (by decide) ?_
              refine lv_iadd hx hb d_Mo_open_132 ?_
              refine lv_topi (fun x12 e_x12 => ?_)
              refine gw_iast M hK hI hM.k12 (nb_in ha1 hs1) trivial d_Mo_open_133 (fun H locs hI => ?_)
              refine lv_bipush (v := (-3)) hx hb d_Mo_open_134 (by decide) ?_
              exact gw_iret M hr hlo hI d_Mo_open_136 (⟨_, B, Nat.le_succ _, hM, hf⟩)
            · refine lv_lload_n hx hb d_Mo_open_108 rfl (lv_at hl 1 rfl) ?_
              refine lv_lload hx hb d_Mo_open_109 (lv_at hl 0 rfl) ?_
              refine W.lcmp hx hb d_Mo_open_111 ?_
              refine lv_if_le (tgt := 124) hx hb d_Mo_open_112 (by decide) (fun c_112 => ?_) (fun c_112 => ?_)
              · refine lv_aload_n hx hb d_Mo_open_124 rfl (lv_at hl 3 rfl) ?_
                refine gw_get M hK hI hM.O i_Mo rfl 12 (by decide) f_Mo_45 rfl (Pv := fun v => v = .ref (q 12)) (fun x hx => ⟨_, _, hx, rfl, rfl⟩) d_Mo_open_125 (fun v hv => ?_)
                subst hv
                refine lv_iload_n hx hb d_Mo_open_128 rfl (lv_at hl 2 rfl) ?_
                refine lv_dup2_11 hx hb d_Mo_open_129 rfl rfl ?_
                refine gw_iald M hK hI hM.k12 (nb_in ha1 hs1) d_Mo_open_130 (fun x13 h_x13 => ?_)
                refine lv_iconst (v := 1) hx hb d_Mo_open_131 (by decide) ?_
                refine lv_iadd hx hb d_Mo_open_132 ?_
                refine lv_topi (fun x14 e_x14 => ?_)
                refine gw_iast M hK hI hM.k12 (nb_in ha1 hs1) trivial d_Mo_open_133 (fun H locs hI => ?_)
                refine lv_bipush (v := (-3)) hx hb d_Mo_open_134 (by decide) ?_
                exact gw_iret M hr hlo hI d_Mo_open_136 (⟨_, B, Nat.le_succ _, hM, hf⟩)
              · refine lv_aload_n hx hb d_Mo_open_115 rfl (lv_at hl 3 rfl) ?_
                refine lv_iload_n hx hb d_Mo_open_116 rfl (lv_at hl 2 rfl) ?_
                refine lv_lload_n hx hb d_Mo_open_117 rfl (lv_at hl 1 rfl) ?_
                refine gw_Vi (As := [.int x3, .long j2]) (rest := []) M hK hI (c_Mo_isGiven l o q B 0 f0 l0 g0 fu fn fx fi fl hM x3 s1 ha1 hs1 j2 hB) k_Mo_isGiven m_Mo_174 hM.O (ci := 6) rfl (fun x hx => ⟨_, hx⟩) rfl hl.1 rfl (Nat.le_of_ble_eq_true rfl) ⟨rfl, rfl, ⟨Nat.le_of_ble_eq_true rfl, Nat.le_of_ble_eq_true rfl⟩, ⟨Nat.le_of_ble_eq_true rfl, Nat.le_of_ble_eq_true rfl⟩⟩ d_Mo_open_118 (fun x15 G9 H locs hw hI => ?_)
                obtain ⟨h_x15, hw⟩ := hw
                rw [hw] at hI
                refine lv_if_eq (tgt := 137) hx hb d_Mo_open_121 (by decide) (fun c_121 => ?_) (fun c_121 => ?_)
                · refine lv_aload_n hx hb d_Mo_open_137 rfl (lv_at hl 3 rfl) ?_
                  refine gw_get M hK hI hM.O i_Mo rfl 19 (by decide) f_Mo_151 rfl (Pv := fun v => v = .int (nI l0)) (fun x hx => ⟨_, _, hx, rfl, rfl⟩) d_Mo_open_138 (fun v hv => ?_)
                  subst hv
                  refine lv_bipush (v := 32) hx hb d_Mo_open_141 (by decide) ?_
                  refine lv_isub hx hb d_Mo_open_143 ?_
                  refine lv_topi (fun x16 e_x16 => ?_)
                  refine lv_istore (lv' := [(6, .int x16), (4, .long x7), (2, .long j2), (1, .int x3), (0, .ref o)]) hx hb d_Mo_open_144 hl (by decide) rfl (fun ls hl => ?_)
                  have hb6 : x16 = nI (l0 - 32) := by rw [e_x16]; exact nb_sub rfl 32
                  refine lv_aload_n hx hb d_Mo_open_146 rfl (lv_at hl 4 rfl) ?_
                  refine lv_iload_n hx hb d_Mo_open_147 rfl (lv_at hl 3 rfl) ?_
                  refine lv_lload_n hx hb d_Mo_open_148 rfl (lv_at hl 2 rfl) ?_
                  refine lv_iload hx hb d_Mo_open_149 (lv_at hl 0 rfl) ?_
                  refine gw_Vi (As := [.int x3, .long j2, .int x16]) (rest := []) M hK hI (c_Mo_isSealed l o q B 0 f0 l0 g0 fu fn fx fi fl hM x3 s1 ha1 hs1 j2 x16 (l0 - 32) hb6 (by omega)) k_Mo_isSealed m_Mo_178 hM.O (ci := 6) rfl (fun x hx => ⟨_, hx⟩) rfl hl.1 rfl (Nat.le_of_ble_eq_true rfl) ⟨rfl, rfl, ⟨Nat.le_of_ble_eq_true rfl, Nat.le_of_ble_eq_true rfl⟩, ⟨Nat.le_of_ble_eq_true rfl, Nat.le_of_ble_eq_true rfl⟩⟩ d_Mo_open_151 (fun x17 G9 H locs hw hI => ?_)
                  obtain ⟨h_x17, hw⟩ := hw
                  rw [hw] at hI
                  refine lv_if_ne (tgt := 170) hx hb d_Mo_open_154 (by decide) (fun c_154 => ?_) (fun c_154 => ?_)
                  · refine lv_aload_n hx hb d_Mo_open_170 rfl (lv_at hl 4 rfl) ?_
                    refine lv_iload_n hx hb d_Mo_open_171 rfl (lv_at hl 3 rfl) ?_
                    refine lv_lload_n hx hb d_Mo_open_172 rfl (lv_at hl 2 rfl) ?_
                    refine gw_Vv (As := [.int x3, .long j2]) (rest := []) M hK hI (c_Mo_give l o q B 0 f0 l0 g0 fu fn fx fi fl hM x3 s1 ha1 hs1 j2 hB) k_Mo_give m_Mo_182 hM.O (ci := 6) rfl (fun x hx => ⟨_, hx⟩) rfl hl.1 rfl (Nat.le_of_ble_eq_true rfl) ⟨rfl, rfl, ⟨Nat.le_of_ble_eq_true rfl, Nat.le_of_ble_eq_true rfl⟩, ⟨Nat.le_of_ble_eq_true rfl, Nat.le_of_ble_eq_true rfl⟩⟩ d_Mo_open_173 (fun G18 H locs hw hI => ?_)
                    obtain ⟨hM, hfz⟩ := hw
                    have hf := hf.tr hfz
                    refine lv_aload_n hx hb d_Mo_open_176 rfl (lv_at hl 4 rfl) ?_
                    refine lv_iload_n hx hb d_Mo_open_177 rfl (lv_at hl 3 rfl) ?_
                    refine lv_iload hx hb d_Mo_open_178 (lv_at hl 0 rfl) ?_
                    refine gw_Vi (As := [.int x3, .int x16]) (rest := []) M hK hI (c_Mo_takeBody l o q (B + 1) 0 f0 l0 g0 fu fn fx fi fl hM x3 s1 ha1 hs1 x16 (l0 - 32) hb6 (by omega) (by omega)) k_Mo_takeBody m_Mo_186 hM.O (ci := 6) rfl (fun x hx => ⟨_, hx⟩) rfl hl.1 rfl (Nat.le_of_ble_eq_true rfl) ⟨rfl, rfl, ⟨Nat.le_of_ble_eq_true rfl, Nat.le_of_ble_eq_true rfl⟩, ⟨Nat.le_of_ble_eq_true rfl, Nat.le_of_ble_eq_true rfl⟩⟩ d_Mo_open_180 (fun x20 G19 H locs hw hI => ?_)
                    obtain ⟨g1, hM, hfz⟩ := hw
                    have hf := hf.tr hfz
                    exact gw_iret M hr hlo hI d_Mo_open_183 (⟨_, B + 1, Nat.le_refl _, hM, hf⟩)
                  · refine lv_aload_n hx hb d_Mo_open_157 rfl (lv_at hl 4 rfl) ?_
                    refine gw_get M hK hI hM.O i_Mo rfl 13 (by decide) f_Mo_48 rfl (Pv := fun v => v = .ref (q 13)) (fun x hx => ⟨_, _, hx, rfl, rfl⟩) d_Mo_open_158 (fun v hv => ?_)
                    subst hv
                    refine lv_iload_n hx hb d_Mo_open_161 rfl (lv_at hl 3 rfl) ?_
                    refine lv_dup2_11 hx hb d_Mo_open_162 rfl rfl ?_
                    refine gw_iald M hK hI hM.k13 (nb_in ha1 hs1) d_Mo_open_163 (fun x21 h_x21 => ?_)
                    refine lv_iconst (v := 1) hx hb d_Mo_open_164 (by decide) ?_
                    refine lv_iadd hx hb d_Mo_open_165 ?_
                    refine lv_topi (fun x22 e_x22 => ?_)
                    refine gw_iast M hK hI hM.k13 (nb_in ha1 hs1) trivial d_Mo_open_166 (fun H locs hI => ?_)
                    refine lv_bipush (v := (-4)) hx hb d_Mo_open_167 (by decide) ?_
                    exact gw_iret M hr hlo hI d_Mo_open_169 (⟨_, B, Nat.le_succ _, hM, hf⟩)
                · refine lv_aload_n hx hb d_Mo_open_124 rfl (lv_at hl 3 rfl) ?_
                  refine gw_get M hK hI hM.O i_Mo rfl 12 (by decide) f_Mo_45 rfl (Pv := fun v => v = .ref (q 12)) (fun x hx => ⟨_, _, hx, rfl, rfl⟩) d_Mo_open_125 (fun v hv => ?_)
                  subst hv
                  refine lv_iload_n hx hb d_Mo_open_128 rfl (lv_at hl 2 rfl) ?_
                  refine lv_dup2_11 hx hb d_Mo_open_129 rfl rfl ?_
                  refine gw_iald M hK hI hM.k12 (nb_in ha1 hs1) d_Mo_open_130 (fun x23 h_x23 => ?_)
                  refine lv_iconst (v := 1) hx hb d_Mo_open_131 (by decide) ?_
                  refine lv_iadd hx hb d_Mo_open_132 ?_
                  refine lv_topi (fun x24 e_x24 => ?_)
                  refine gw_iast M hK hI hM.k12 (nb_in ha1 hs1) trivial d_Mo_open_133 (fun H locs hI => ?_)
                  refine lv_bipush (v := (-3)) hx hb d_Mo_open_134 (by decide) ?_
                  exact gw_iret M hr hlo hI d_Mo_open_136 (⟨_, B, Nat.le_succ _, hM, hf⟩)
        refine lv_if_eq (tgt := 92) hx hb d_Mo_open_71 (by decide) (fun c_71 => ?_) (fun c_71 => ?_)
        · exact J_92 x4 _ _ _  hI (lv_sub hl [0, 1, 2, 3] rfl)
        · refine lv_lload hx hb d_Mo_open_74 (lv_at hl 0 rfl) ?_
          refine lv_lconst (v := 1) hx hb d_Mo_open_76 (by decide) ?_
          refine lv_ladd hx hb d_Mo_open_77 ?_
          refine lv_topl (fun x25 e_x25 => ?_)
          refine lv_lstore (lv' := [(6, .long x25), (4, .long x7), (2, .long x4), (1, .int x3), (0, .ref o)]) hx hb d_Mo_open_78 hl (by decide) rfl (fun ls hl => ?_)
          refine lv_lload hx hb d_Mo_open_80 (lv_at hl 0 rfl) ?_
          refine lv_lload_n hx hb d_Mo_open_82 rfl (lv_at hl 2 rfl) ?_
          refine lv_lload hx hb d_Mo_open_83 (lv_at hl 0 rfl) ?_
          refine lv_lsub hx hb d_Mo_open_85 ?_
          refine lv_ldc2 (v := 4294967295) hx hb M.2.2.2.1 (M.2.2.2.2 _ o_Mo_133) d_Mo_open_86 ?_
          refine lv_land hx hb d_Mo_open_89 ?_
          refine lv_ladd hx hb d_Mo_open_90 ?_
          refine lv_topl (fun x26 e_x26 => ?_)
          refine lv_lstore_n (lv' := [(2, .long x26), (6, .long x25), (4, .long x7), (1, .int x3), (0, .ref o)]) hx hb d_Mo_open_91 rfl hl (by decide) rfl (fun ls hl => ?_)
          exact J_92 x26 _ _ _  hI (lv_sub hl [2, 0, 3, 4] rfl)
      · refine lv_bipush (v := (-2)) hx hb d_Mo_open_40 (by decide) ?_
        exact gw_iret M hr hlo hI d_Mo_open_42 (⟨_, B, Nat.le_succ _, hM, hf⟩)
    · refine lv_iconst (v := (-1)) hx hb d_Mo_open_23 (by decide) ?_
      exact gw_iret M hr hlo hI d_Mo_open_24 (⟨_, B, Nat.le_succ _, hM, hf⟩)

abbrev rm_Mo_givenn : Room := { frames := 1, cells := 0, slots := 0, locals := 22 }
set_option maxHeartbeats 4000000 in
set_option maxRecDepth 100000 in
theorem c_Mo_givenn (l : Launch) {D : gw_D} {Hs : Heap} {G : gw_G} (o : Nat) (q : Nat → Nat) (B : Nat) (t0 : Int32) (f0 l0 g0 : Nat) (fu fn fx fi : Nat → Int32) (fl : Nat → Int64) (hM : mdl D G o q B t0 f0 l0 g0 fu fn fx fi fl) (n1 : Int32) (hfi : ∀ j, j < 16 → ¬ (¬ fu j = 0 ∧ fn j = n1)) (a2 : Int32) : Met l y_Mo_given (Cond.code y_Mo_given b_Mo_given 9 (some .long) :: tb) rm_Mo_givenn (gw_Pc D Hs G [.ref o, .int n1, .int a2]) (gw_Ql D Hs (fun _ G1 => mdl D G1 o q B 1 f0 l0 g0 fu fn fx fi fl ∧ gw_fr (mown o q) G G1)) 0 0 (gw_A Hs) := by
  refine gw_met (by decide) (Nat.le_of_ble_eq_true rfl) ?_
  intro p e s m args below meth c M hK hr hlo hin hI ls hl
  have hx := M.1
  have hb := M.2.1
  have hl : lv_has ls 9 [(0, .ref o), (1, .int n1), (2, .int a2)] := hl
  have hf : gw_fr (mown o q) G G := gw_fr.rf
  refine lv_aload_n hx hb d_Mo_given_0 rfl (lv_at hl 0 rfl) ?_
  refine lv_iload_n hx hb d_Mo_given_1 rfl (lv_at hl 1 rfl) ?_
  refine gw_Vi (As := [.int n1]) (rest := []) M hK hI (c_Mo_findn l o q B t0 f0 l0 g0 fu fn fx fi fl hM n1 hfi) k_Mo_find m_Mo_135 hM.O (ci := 6) rfl (fun x hx => ⟨_, hx⟩) rfl hl.1 rfl (Nat.le_of_ble_eq_true rfl) ⟨rfl, rfl, ⟨Nat.le_of_ble_eq_true rfl, Nat.le_of_ble_eq_true rfl⟩, ⟨Nat.le_of_ble_eq_true rfl, Nat.le_of_ble_eq_true rfl⟩⟩ d_Mo_given_2 (fun x1 G9 H locs hw hI => ?_)
  obtain ⟨h_x1, hw⟩ := hw
  rw [hw] at hI
  subst h_x1
  refine lv_istore_n (lv' := [(3, .int (-1)), (0, .ref o), (1, .int n1), (2, .int a2)]) hx hb d_Mo_given_5 rfl hl (by decide) rfl (fun ls hl => ?_)
  refine lv_aload_n hx hb d_Mo_given_6 rfl (lv_at hl 1 rfl) ?_
  refine lv_iload_n hx hb d_Mo_given_7 rfl (lv_at hl 0 rfl) ?_
  refine lv_if_ge (tgt := 15) hx hb d_Mo_given_8 (by decide) (fun q9 => absurd q9 (by decide)) (fun c_8 => ?_)
  refine lv_iconst (v := 1) hx hb d_Mo_given_11 (by decide) ?_
  refine lv_goto (tgt := 24) hx hb d_Mo_given_12 (by decide) ?_
  refine gw_put M hK hI hM.O i_Mo t_Mo tk_Mo n_Mo rfl 0 (by decide) f_Mo_94 rfl rfl rfl (kx (mo_ob q 1 (nI f0) (nI l0) (nI g0))) (fun x hx => ⟨_, hx, Nat.le_of_ble_eq_true rfl, rfl⟩) d_Mo_given_24 (fun H locs hI => ?_)
  obtain ⟨G2, hE_G2⟩ : ∃ z9, gw_up G o (kx (mo_ob q 1 (nI f0) (nI l0) (nI g0))) = z9 := ⟨_, rfl⟩
  rw [hE_G2] at hI
  have hf : gw_fr (mown o q) G G2 := hf.tr (by rw [← hE_G2]; exact gw_fr.up (Or.inl rfl))
  have hM : mdl D G2 o q B 1 f0 l0 g0 fu fn fx fi fl := by rw [← hE_G2]; exact hM.ob hM.f200 hM.l236 hM.g204
  refine lv_lconst (v := 0) hx hb d_Mo_given_27 (by decide) ?_
  refine lv_lstore (lv' := [(4, .long 0), (3, .int (-1)), (0, .ref o), (1, .int n1), (2, .int a2)]) hx hb d_Mo_given_28 hl (by decide) rfl (fun ls hl => ?_)
  refine lv_iconst (v := 0) hx hb d_Mo_given_30 (by decide) ?_
  refine lv_istore (lv' := [(6, .int 0), (4, .long 0), (3, .int (-1)), (0, .ref o), (1, .int n1), (2, .int a2)]) hx hb d_Mo_given_31 hl (by decide) rfl (fun ls hl => ?_)
  have L_33 : ∀ (n9 : Nat) (k : Nat) (v4 : Int64) (y6 : Int32) (H : Heap) (locs : List Loc) (ls : Array Slot), k ≤ 64 → y6 = nI k → 64 - k < n9 → gw_I D Hs G2 s.heap H locs → lv_has ls 9 [(6, .int y6), (4, .long v4), (0, .ref o), (1, .int n1), (2, .int a2), (3, .int (-1))] → W p l e rm_Mo_givenn s m args below meth c H locs 0 0 (MQ below (gw_Ql D Hs (fun _ G1 => mdl D G1 o q B 1 f0 l0 g0 fu fn fx fi fl ∧ gw_fr (mown o q) G G1)) args s 0 0 (gw_A Hs)) (F0 m 33 ls []) := by
    intro n9
    induction n9 with
    | zero =>
      intro k v4 y6 H locs ls bk hk hm hI hl
      exact absurd hm (Nat.not_lt_zero _)
    | succ n9 ih_33 =>
      intro k v4 y6 H locs ls bk hk hm_33 hI hl
      refine lv_iload hx hb d_Mo_given_33 (lv_at hl 0 rfl) ?_
      refine lv_bipush (v := 64) hx hb d_Mo_given_35 (by decide) ?_
      refine lv_icmp_ge (tgt := 100) hx hb d_Mo_given_37 (by decide) (fun c_37 => ?_) (fun c_37 => ?_)
      · refine lv_lload hx hb d_Mo_given_100 (lv_at hl 1 rfl) ?_
        exact gw_lret M hr hlo hI d_Mo_given_102 (⟨hM, hf⟩)
      · have lk : k < 64 := nb_lt (n := 64) hk c_37 (by decide) (z_31 bk)
        refine lv_aload_n hx hb d_Mo_given_40 rfl (lv_at hl 2 rfl) ?_
        refine gw_get M hK hI hM.O i_Mo rfl 0 (by decide) f_Mo_94 rfl (Pv := fun v => v = .int 1) (fun x hx => ⟨_, _, hx, rfl, rfl⟩) d_Mo_given_41 (fun v hv => ?_)
        subst hv
        refine lv_if_ne (tgt := 100) hx hb d_Mo_given_44 (by decide) (fun c_44 => ?_) (fun q9 => absurd q9 (by decide))
        refine lv_lload hx hb d_Mo_given_100 (lv_at hl 1 rfl) ?_
        exact gw_lret M hr hlo hI d_Mo_given_102 (⟨hM, hf⟩)
  exact L_33 _ 0 0 0 _ _ _ (Nat.zero_le _) rfl (Nat.lt_succ_self _) hI (lv_sub hl [0, 1, 3, 4, 5, 2] rfl)

abbrev rm_Mo_givenf : Room := { frames := 1, cells := 0, slots := 0, locals := 24 }
set_option maxHeartbeats 4000000 in
set_option maxRecDepth 100000 in
theorem c_Mo_givenf (l : Launch) {D : gw_D} {Hs : Heap} {G : gw_G} (o : Nat) (q : Nat → Nat) (B : Nat) (t0 : Int32) (f0 l0 g0 : Nat) (fu fn fx fi : Nat → Int32) (fl : Nat → Int64) (hM : mdl D G o q B t0 f0 l0 g0 fu fn fx fi fl) (n1 : Int32) (s1 : Nat) (hfi : isFi fu fn n1 s1) (hs1 : s1 < 16) (a2 : Int32) (hB : B ≤ 600) : Met l y_Mo_given (Cond.code y_Mo_given b_Mo_given 9 (some .long) :: tb) rm_Mo_givenf (gw_Pc D Hs G [.ref o, .int n1, .int a2]) (gw_Ql D Hs (fun _ G1 => ((a2 < 0 ∧ mdl D G1 o q B 2 f0 l0 g0 fu fn fx fi fl) ∨ (¬ a2 < 0 ∧ mdl D G1 o q B 0 f0 l0 g0 fu fn fx fi fl)) ∧ gw_fr (mown o q) G G1)) 0 0 (gw_A Hs) := by
  refine gw_met (by decide) (Nat.le_of_ble_eq_true rfl) ?_
  intro p e s m args below meth c M hK hr hlo hin hI ls hl
  have hx := M.1
  have hb := M.2.1
  have hl : lv_has ls 9 [(0, .ref o), (1, .int n1), (2, .int a2)] := hl
  have hf : gw_fr (mown o q) G G := gw_fr.rf
  refine lv_aload_n hx hb d_Mo_given_0 rfl (lv_at hl 0 rfl) ?_
  refine lv_iload_n hx hb d_Mo_given_1 rfl (lv_at hl 1 rfl) ?_
  refine gw_Vi (As := [.int n1]) (rest := []) M hK hI (c_Mo_findf l o q B t0 f0 l0 g0 fu fn fx fi fl hM n1 s1 hfi hs1) k_Mo_find m_Mo_135 hM.O (ci := 6) rfl (fun x hx => ⟨_, hx⟩) rfl hl.1 rfl (Nat.le_of_ble_eq_true rfl) ⟨rfl, rfl, ⟨Nat.le_of_ble_eq_true rfl, Nat.le_of_ble_eq_true rfl⟩, ⟨Nat.le_of_ble_eq_true rfl, Nat.le_of_ble_eq_true rfl⟩⟩ d_Mo_given_2 (fun x1 G9 H locs hw hI => ?_)
  obtain ⟨h_x1, hw⟩ := hw
  rw [hw] at hI
  subst h_x1
  refine lv_istore_n (lv' := [(3, .int (nI s1)), (0, .ref o), (1, .int n1), (2, .int a2)]) hx hb d_Mo_given_5 rfl hl (by decide) rfl (fun ls hl => ?_)
  refine lv_aload_n hx hb d_Mo_given_6 rfl (lv_at hl 1 rfl) ?_
  refine lv_iload_n hx hb d_Mo_given_7 rfl (lv_at hl 0 rfl) ?_
  refine lv_if_ge (tgt := 15) hx hb d_Mo_given_8 (by decide) (fun c_8 => ?_) (fun q9 => absurd (Int32.not_lt.mp (nI_nn (by omega))) q9)
  refine lv_iload_n hx hb d_Mo_given_15 rfl (lv_at hl 3 rfl) ?_
  refine lv_if_ge (tgt := 23) hx hb d_Mo_given_16 (by decide) (fun c_16 => ?_) (fun c_16 => ?_)
  · refine lv_iconst (v := 0) hx hb d_Mo_given_23 (by decide) ?_
    refine gw_put M hK hI hM.O i_Mo t_Mo tk_Mo n_Mo rfl 0 (by decide) f_Mo_94 rfl rfl rfl (kx (mo_ob q 0 (nI f0) (nI l0) (nI g0))) (fun x hx => ⟨_, hx, Nat.le_of_ble_eq_true rfl, rfl⟩) d_Mo_given_24 (fun H locs hI => ?_)
    obtain ⟨G2, hE_G2⟩ : ∃ z9, gw_up G o (kx (mo_ob q 0 (nI f0) (nI l0) (nI g0))) = z9 := ⟨_, rfl⟩
    rw [hE_G2] at hI
    have hf : gw_fr (mown o q) G G2 := hf.tr (by rw [← hE_G2]; exact gw_fr.up (Or.inl rfl))
    have hM : mdl D G2 o q B 0 f0 l0 g0 fu fn fx fi fl := by rw [← hE_G2]; exact hM.ob hM.f200 hM.l236 hM.g204
    refine lv_lconst (v := 0) hx hb d_Mo_given_27 (by decide) ?_
    refine lv_lstore (lv' := [(4, .long 0), (3, .int (nI s1)), (0, .ref o), (1, .int n1), (2, .int a2)]) hx hb d_Mo_given_28 hl (by decide) rfl (fun ls hl => ?_)
    refine lv_iconst (v := 0) hx hb d_Mo_given_30 (by decide) ?_
    refine lv_istore (lv' := [(6, .int 0), (4, .long 0), (3, .int (nI s1)), (0, .ref o), (1, .int n1), (2, .int a2)]) hx hb d_Mo_given_31 hl (by decide) rfl (fun ls hl => ?_)
    have L_33 : ∀ (n9 : Nat) (k : Nat) (v4 : Int64) (y6 : Int32) (H : Heap) (locs : List Loc) (ls : Array Slot), k ≤ 64 → y6 = nI k → 64 - k < n9 → gw_I D Hs G2 s.heap H locs → lv_has ls 9 [(6, .int y6), (4, .long v4), (0, .ref o), (1, .int n1), (2, .int a2), (3, .int (nI s1))] → W p l e rm_Mo_givenf s m args below meth c H locs 0 0 (MQ below (gw_Ql D Hs (fun _ G1 => ((a2 < 0 ∧ mdl D G1 o q B 2 f0 l0 g0 fu fn fx fi fl) ∨ (¬ a2 < 0 ∧ mdl D G1 o q B 0 f0 l0 g0 fu fn fx fi fl)) ∧ gw_fr (mown o q) G G1)) args s 0 0 (gw_A Hs)) (F0 m 33 ls []) := by
      intro n9
      induction n9 with
      | zero =>
        intro k v4 y6 H locs ls bk hk hm hI hl
        exact absurd hm (Nat.not_lt_zero _)
      | succ n9 ih_33 =>
        intro k v4 y6 H locs ls bk hk hm_33 hI hl
        refine lv_iload hx hb d_Mo_given_33 (lv_at hl 0 rfl) ?_
        refine lv_bipush (v := 64) hx hb d_Mo_given_35 (by decide) ?_
        refine lv_icmp_ge (tgt := 100) hx hb d_Mo_given_37 (by decide) (fun c_37 => ?_) (fun c_37 => ?_)
        · refine lv_lload hx hb d_Mo_given_100 (lv_at hl 1 rfl) ?_
          exact gw_lret M hr hlo hI d_Mo_given_102 (⟨Or.inr ⟨Int32.not_lt.mpr c_16, hM⟩, hf⟩)
        · have lk : k < 64 := nb_lt (n := 64) hk c_37 (by decide) (z_31 bk)
          refine lv_aload_n hx hb d_Mo_given_40 rfl (lv_at hl 2 rfl) ?_
          refine gw_get M hK hI hM.O i_Mo rfl 0 (by decide) f_Mo_94 rfl (Pv := fun v => v = .int 0) (fun x hx => ⟨_, _, hx, rfl, rfl⟩) d_Mo_given_41 (fun v hv => ?_)
          subst hv
          refine lv_if_ne (tgt := 100) hx hb d_Mo_given_44 (by decide) (fun q9 => absurd (by decide) q9) (fun c_44 => ?_)
          refine lv_iload_n hx hb d_Mo_given_47 rfl (lv_at hl 4 rfl) ?_
          refine lv_i2l hx hb d_Mo_given_48 rfl ?_
          refine lv_iload hx hb d_Mo_given_49 (lv_at hl 0 rfl) ?_
          refine lv_i2l hx hb d_Mo_given_51 rfl ?_
          refine lv_ladd hx hb d_Mo_given_52 ?_
          refine lv_topl (fun x3 e_x3 => ?_)
          refine lv_lstore (lv' := [(7, .long x3), (6, .int y6), (4, .long v4), (0, .ref o), (1, .int n1), (2, .int a2), (3, .int (nI s1))]) hx hb d_Mo_given_53 hl (by decide) rfl (fun ls hl => ?_)
          refine lv_lload hx hb d_Mo_given_55 (lv_at hl 0 rfl) ?_
          refine lv_aload_n hx hb d_Mo_given_57 rfl (lv_at hl 3 rfl) ?_
          refine gw_get M hK hI hM.O i_Mo rfl 6 (by decide) f_Mo_26 rfl (Pv := fun v => v = .ref (q 6)) (fun x hx => ⟨_, _, hx, rfl, rfl⟩) d_Mo_given_58 (fun v hv => ?_)
          subst hv
          refine lv_iload_n hx hb d_Mo_given_61 rfl (lv_at hl 6 rfl) ?_
          refine gw_iald M hK hI hM.k6 (vp_in_nI hs1 (by decide)) d_Mo_given_62 (fun x4 h_x4 => ?_)
          refine lv_i2l hx hb d_Mo_given_63 rfl ?_
          refine W.lcmp hx hb d_Mo_given_64 ?_
          refine lv_if_ge (tgt := 94) hx hb d_Mo_given_65 (by decide) (fun c_65 => ?_) (fun c_65 => ?_)
          · obtain ⟨x5, e_x5⟩ : ∃ ww9 : Int32, ww9 = y6 + 1 := ⟨_, rfl⟩
            refine lv_iinc (v := x5) (lv' := [(6, .int x5), (7, .long x3), (4, .long v4), (0, .ref o), (1, .int n1), (2, .int a2), (3, .int (nI s1))]) hx hb d_Mo_given_94 hl (k := 1) rfl (by rw [e_x5]; rfl) (by decide) rfl (fun ls hl => ?_)
            refine lv_goto (tgt := 33) hx hb d_Mo_given_97 (by decide) ?_
            exact ih_33 (k + 1) v4 x5 _ _ _ lk (nb_s e_x5 hk) (z_m hm_33 lk) hI (lv_sub hl [0, 2, 3, 4, 5, 6] rfl)
          · refine lv_aload_n hx hb d_Mo_given_68 rfl (lv_at hl 3 rfl) ?_
            refine lv_iload_n hx hb d_Mo_given_69 rfl (lv_at hl 6 rfl) ?_
            refine lv_aload_n hx hb d_Mo_given_70 rfl (lv_at hl 3 rfl) ?_
            refine gw_get M hK hI hM.O i_Mo rfl 10 (by decide) f_Mo_39 rfl (Pv := fun v => v = .ref (q 10)) (fun x hx => ⟨_, _, hx, rfl, rfl⟩) d_Mo_given_71 (fun v hv => ?_)
            subst hv
            refine lv_iload_n hx hb d_Mo_given_74 rfl (lv_at hl 6 rfl) ?_
            refine gw_lald M hK hI hM.k10 (vp_in_nI hs1 (by decide)) d_Mo_given_75 (fun x6 h_x6 => ?_)
            refine lv_lload hx hb d_Mo_given_76 (lv_at hl 0 rfl) ?_
            refine lv_lsub hx hb d_Mo_given_78 ?_
            refine gw_Vi (As := [.int (nI s1), .long (x6 - x3)]) (rest := []) M hK hI (c_Mo_isGiven l o q B 0 f0 l0 g0 fu fn fx fi fl hM (nI s1) s1 rfl hs1 (x6 - x3) hB) k_Mo_isGiven m_Mo_174 hM.O (ci := 6) rfl (fun x hx => ⟨_, hx⟩) rfl hl.1 rfl (Nat.le_of_ble_eq_true rfl) ⟨rfl, rfl, ⟨Nat.le_of_ble_eq_true rfl, Nat.le_of_ble_eq_true rfl⟩, ⟨Nat.le_of_ble_eq_true rfl, Nat.le_of_ble_eq_true rfl⟩⟩ d_Mo_given_79 (fun x7 G9 H locs hw hI => ?_)
            obtain ⟨h_x7, hw⟩ := hw
            rw [hw] at hI
            refine lv_if_eq (tgt := 94) hx hb d_Mo_given_82 (by decide) (fun c_82 => ?_) (fun c_82 => ?_)
            · obtain ⟨x8, e_x8⟩ : ∃ ww9 : Int32, ww9 = y6 + 1 := ⟨_, rfl⟩
              refine lv_iinc (v := x8) (lv' := [(6, .int x8), (7, .long x3), (4, .long v4), (0, .ref o), (1, .int n1), (2, .int a2), (3, .int (nI s1))]) hx hb d_Mo_given_94 hl (k := 1) rfl (by rw [e_x8]; rfl) (by decide) rfl (fun ls hl => ?_)
              refine lv_goto (tgt := 33) hx hb d_Mo_given_97 (by decide) ?_
              exact ih_33 (k + 1) v4 x8 _ _ _ lk (nb_s e_x8 hk) (z_m hm_33 lk) hI (lv_sub hl [0, 2, 3, 4, 5, 6] rfl)
            · refine lv_lload hx hb d_Mo_given_85 (lv_at hl 2 rfl) ?_
              refine lv_lconst (v := 1) hx hb d_Mo_given_87 (by decide) ?_
              refine lv_iload hx hb d_Mo_given_88 (lv_at hl 1 rfl) ?_
              refine lv_lshl hx hb d_Mo_given_90 rfl ?_
              refine lv_lor hx hb d_Mo_given_91 ?_
              refine lv_topl (fun x9 e_x9 => ?_)
              refine lv_lstore (lv' := [(4, .long x9), (7, .long x3), (6, .int y6), (0, .ref o), (1, .int n1), (2, .int a2), (3, .int (nI s1))]) hx hb d_Mo_given_92 hl (by decide) rfl (fun ls hl => ?_)
              obtain ⟨x10, e_x10⟩ : ∃ ww9 : Int32, ww9 = y6 + 1 := ⟨_, rfl⟩
              refine lv_iinc (v := x10) (lv' := [(6, .int x10), (4, .long x9), (7, .long x3), (0, .ref o), (1, .int n1), (2, .int a2), (3, .int (nI s1))]) hx hb d_Mo_given_94 hl (k := 2) rfl (by rw [e_x10]; rfl) (by decide) rfl (fun ls hl => ?_)
              refine lv_goto (tgt := 33) hx hb d_Mo_given_97 (by decide) ?_
              exact ih_33 (k + 1) x9 x10 _ _ _ lk (nb_s e_x10 hk) (z_m hm_33 lk) hI (lv_sub hl [0, 1, 3, 4, 5, 6] rfl)
    exact L_33 _ 0 0 0 _ _ _ (Nat.zero_le _) rfl (Nat.lt_succ_self _) hI (lv_sub hl [0, 1, 3, 4, 5, 2] rfl)
  · refine lv_iconst (v := 2) hx hb d_Mo_given_19 (by decide) ?_
    refine lv_goto (tgt := 24) hx hb d_Mo_given_20 (by decide) ?_
    refine gw_put M hK hI hM.O i_Mo t_Mo tk_Mo n_Mo rfl 0 (by decide) f_Mo_94 rfl rfl rfl (kx (mo_ob q 2 (nI f0) (nI l0) (nI g0))) (fun x hx => ⟨_, hx, Nat.le_of_ble_eq_true rfl, rfl⟩) d_Mo_given_24 (fun H locs hI => ?_)
    obtain ⟨G11, hE_G11⟩ : ∃ z9, gw_up G o (kx (mo_ob q 2 (nI f0) (nI l0) (nI g0))) = z9 := ⟨_, rfl⟩
    rw [hE_G11] at hI
    have hf : gw_fr (mown o q) G G11 := hf.tr (by rw [← hE_G11]; exact gw_fr.up (Or.inl rfl))
    have hM : mdl D G11 o q B 2 f0 l0 g0 fu fn fx fi fl := by rw [← hE_G11]; exact hM.ob hM.f200 hM.l236 hM.g204
    refine lv_lconst (v := 0) hx hb d_Mo_given_27 (by decide) ?_
    refine lv_lstore (lv' := [(4, .long 0), (3, .int (nI s1)), (0, .ref o), (1, .int n1), (2, .int a2)]) hx hb d_Mo_given_28 hl (by decide) rfl (fun ls hl => ?_)
    refine lv_iconst (v := 0) hx hb d_Mo_given_30 (by decide) ?_
    refine lv_istore (lv' := [(6, .int 0), (4, .long 0), (3, .int (nI s1)), (0, .ref o), (1, .int n1), (2, .int a2)]) hx hb d_Mo_given_31 hl (by decide) rfl (fun ls hl => ?_)
    have L_33 : ∀ (n9 : Nat) (k : Nat) (v4 : Int64) (y6 : Int32) (H : Heap) (locs : List Loc) (ls : Array Slot), k ≤ 64 → y6 = nI k → 64 - k < n9 → gw_I D Hs G11 s.heap H locs → lv_has ls 9 [(6, .int y6), (4, .long v4), (0, .ref o), (1, .int n1), (2, .int a2), (3, .int (nI s1))] → W p l e rm_Mo_givenf s m args below meth c H locs 0 0 (MQ below (gw_Ql D Hs (fun _ G1 => ((a2 < 0 ∧ mdl D G1 o q B 2 f0 l0 g0 fu fn fx fi fl) ∨ (¬ a2 < 0 ∧ mdl D G1 o q B 0 f0 l0 g0 fu fn fx fi fl)) ∧ gw_fr (mown o q) G G1)) args s 0 0 (gw_A Hs)) (F0 m 33 ls []) := by
      intro n9
      induction n9 with
      | zero =>
        intro k v4 y6 H locs ls bk hk hm hI hl
        exact absurd hm (Nat.not_lt_zero _)
      | succ n9 ih_33 =>
        intro k v4 y6 H locs ls bk hk hm_33 hI hl
        refine lv_iload hx hb d_Mo_given_33 (lv_at hl 0 rfl) ?_
        refine lv_bipush (v := 64) hx hb d_Mo_given_35 (by decide) ?_
        refine lv_icmp_ge (tgt := 100) hx hb d_Mo_given_37 (by decide) (fun c_37 => ?_) (fun c_37 => ?_)
        · refine lv_lload hx hb d_Mo_given_100 (lv_at hl 1 rfl) ?_
          exact gw_lret M hr hlo hI d_Mo_given_102 (⟨Or.inl ⟨Int32.not_le.mp c_16, hM⟩, hf⟩)
        · have lk : k < 64 := nb_lt (n := 64) hk c_37 (by decide) (z_31 bk)
          refine lv_aload_n hx hb d_Mo_given_40 rfl (lv_at hl 2 rfl) ?_
          refine gw_get M hK hI hM.O i_Mo rfl 0 (by decide) f_Mo_94 rfl (Pv := fun v => v = .int 2) (fun x hx => ⟨_, _, hx, rfl, rfl⟩) d_Mo_given_41 (fun v hv => ?_)
          subst hv
          refine lv_if_ne (tgt := 100) hx hb d_Mo_given_44 (by decide) (fun c_44 => ?_) (fun q9 => absurd q9 (by decide))
          refine lv_lload hx hb d_Mo_given_100 (lv_at hl 1 rfl) ?_
          exact gw_lret M hr hlo hI d_Mo_given_102 (⟨Or.inl ⟨Int32.not_le.mp c_16, hM⟩, hf⟩)
    exact L_33 _ 0 0 0 _ _ _ (Nat.zero_le _) rfl (Nat.lt_succ_self _) hI (lv_sub hl [0, 1, 3, 4, 5, 2] rfl)

abbrev rm_Mo_toldn : Room := { frames := 1, cells := 0, slots := 0, locals := 22 }
set_option maxHeartbeats 4000000 in
set_option maxRecDepth 100000 in
theorem c_Mo_toldn (l : Launch) {D : gw_D} {Hs : Heap} {G : gw_G} (o : Nat) (q : Nat → Nat) (B : Nat) (t0 : Int32) (f0 l0 g0 : Nat) (fu fn fx fi : Nat → Int32) (fl : Nat → Int64) (hM : mdl D G o q B t0 f0 l0 g0 fu fn fx fi fl) (n1 : Int32) (hfi : ∀ j, j < 16 → ¬ (¬ fu j = 0 ∧ fn j = n1)) (a2 : Int32) : Met l y_Mo_told (Cond.code y_Mo_told b_Mo_told 4 (some .long) :: tb) rm_Mo_toldn (gw_Pc D Hs G [.ref o, .int n1, .int a2]) (gw_Ql D Hs (fun _ G1 => mdl D G1 o q B 1 f0 l0 g0 fu fn fx fi fl ∧ gw_fr (mown o q) G G1)) 0 0 (gw_A Hs) := by
  refine gw_met (by decide) (Nat.le_of_ble_eq_true rfl) ?_
  intro p e s m args below meth c M hK hr hlo hin hI ls hl
  have hx := M.1
  have hb := M.2.1
  have hl : lv_has ls 4 [(0, .ref o), (1, .int n1), (2, .int a2)] := hl
  have hf : gw_fr (mown o q) G G := gw_fr.rf
  refine lv_aload_n hx hb d_Mo_told_0 rfl (lv_at hl 0 rfl) ?_
  refine lv_iload_n hx hb d_Mo_told_1 rfl (lv_at hl 1 rfl) ?_
  refine gw_Vi (As := [.int n1]) (rest := []) M hK hI (c_Mo_findn l o q B t0 f0 l0 g0 fu fn fx fi fl hM n1 hfi) k_Mo_find m_Mo_135 hM.O (ci := 6) rfl (fun x hx => ⟨_, hx⟩) rfl hl.1 rfl (Nat.le_of_ble_eq_true rfl) ⟨rfl, rfl, ⟨Nat.le_of_ble_eq_true rfl, Nat.le_of_ble_eq_true rfl⟩, ⟨Nat.le_of_ble_eq_true rfl, Nat.le_of_ble_eq_true rfl⟩⟩ d_Mo_told_2 (fun x1 G9 H locs hw hI => ?_)
  obtain ⟨h_x1, hw⟩ := hw
  rw [hw] at hI
  subst h_x1
  refine lv_istore_n (lv' := [(3, .int (-1)), (0, .ref o), (1, .int n1), (2, .int a2)]) hx hb d_Mo_told_5 rfl hl (by decide) rfl (fun ls hl => ?_)
  refine lv_aload_n hx hb d_Mo_told_6 rfl (lv_at hl 1 rfl) ?_
  refine lv_iload_n hx hb d_Mo_told_7 rfl (lv_at hl 0 rfl) ?_
  refine lv_if_ge (tgt := 15) hx hb d_Mo_told_8 (by decide) (fun q9 => absurd q9 (by decide)) (fun c_8 => ?_)
  refine lv_iconst (v := 1) hx hb d_Mo_told_11 (by decide) ?_
  refine lv_goto (tgt := 30) hx hb d_Mo_told_12 (by decide) ?_
  refine gw_put M hK hI hM.O i_Mo t_Mo tk_Mo n_Mo rfl 0 (by decide) f_Mo_94 rfl rfl rfl (kx (mo_ob q 1 (nI f0) (nI l0) (nI g0))) (fun x hx => ⟨_, hx, Nat.le_of_ble_eq_true rfl, rfl⟩) d_Mo_told_30 (fun H locs hI => ?_)
  obtain ⟨G2, hE_G2⟩ : ∃ z9, gw_up G o (kx (mo_ob q 1 (nI f0) (nI l0) (nI g0))) = z9 := ⟨_, rfl⟩
  rw [hE_G2] at hI
  have hf : gw_fr (mown o q) G G2 := hf.tr (by rw [← hE_G2]; exact gw_fr.up (Or.inl rfl))
  have hM : mdl D G2 o q B 1 f0 l0 g0 fu fn fx fi fl := by rw [← hE_G2]; exact hM.ob hM.f200 hM.l236 hM.g204
  refine lv_aload_n hx hb d_Mo_told_33 rfl (lv_at hl 1 rfl) ?_
  refine gw_get M hK hI hM.O i_Mo rfl 0 (by decide) f_Mo_94 rfl (Pv := fun v => v = .int 1) (fun x hx => ⟨_, _, hx, rfl, rfl⟩) d_Mo_told_34 (fun v hv => ?_)
  subst hv
  refine lv_if_le (tgt := 42) hx hb d_Mo_told_37 (by decide) (fun q9 => absurd q9 (by decide)) (fun c_37 => ?_)
  refine lv_lconst (v := 0) hx hb d_Mo_told_40 (by decide) ?_
  exact gw_lret M hr hlo hI d_Mo_told_41 (⟨hM, hf⟩)

abbrev rm_Mo_toldf : Room := { frames := 1, cells := 0, slots := 0, locals := 22 }
set_option maxHeartbeats 4000000 in
set_option maxRecDepth 100000 in
theorem c_Mo_toldf (l : Launch) {D : gw_D} {Hs : Heap} {G : gw_G} (o : Nat) (q : Nat → Nat) (B : Nat) (t0 : Int32) (f0 l0 g0 : Nat) (fu fn fx fi : Nat → Int32) (fl : Nat → Int64) (hM : mdl D G o q B t0 f0 l0 g0 fu fn fx fi fl) (n1 : Int32) (s1 : Nat) (hfi : isFi fu fn n1 s1) (hs1 : s1 < 16) (a2 : Int32) : Met l y_Mo_told (Cond.code y_Mo_told b_Mo_told 4 (some .long) :: tb) rm_Mo_toldf (gw_Pc D Hs G [.ref o, .int n1, .int a2]) (gw_Ql D Hs (fun _ G1 => (((a2 < 0 ∨ ¬ a2 ≤ 7) ∧ mdl D G1 o q B 2 f0 l0 g0 fu fn fx fi fl) ∨ (¬ (a2 < 0 ∨ ¬ a2 ≤ 7) ∧ mdl D G1 o q B 0 f0 l0 g0 fu fn fx fi fl)) ∧ gw_fr (mown o q) G G1)) 0 0 (gw_A Hs) := by
  refine gw_met (by decide) (Nat.le_of_ble_eq_true rfl) ?_
  intro p e s m args below meth c M hK hr hlo hin hI ls hl
  have hx := M.1
  have hb := M.2.1
  have hl : lv_has ls 4 [(0, .ref o), (1, .int n1), (2, .int a2)] := hl
  have hf : gw_fr (mown o q) G G := gw_fr.rf
  refine lv_aload_n hx hb d_Mo_told_0 rfl (lv_at hl 0 rfl) ?_
  refine lv_iload_n hx hb d_Mo_told_1 rfl (lv_at hl 1 rfl) ?_
  refine gw_Vi (As := [.int n1]) (rest := []) M hK hI (c_Mo_findf l o q B t0 f0 l0 g0 fu fn fx fi fl hM n1 s1 hfi hs1) k_Mo_find m_Mo_135 hM.O (ci := 6) rfl (fun x hx => ⟨_, hx⟩) rfl hl.1 rfl (Nat.le_of_ble_eq_true rfl) ⟨rfl, rfl, ⟨Nat.le_of_ble_eq_true rfl, Nat.le_of_ble_eq_true rfl⟩, ⟨Nat.le_of_ble_eq_true rfl, Nat.le_of_ble_eq_true rfl⟩⟩ d_Mo_told_2 (fun x1 G9 H locs hw hI => ?_)
  obtain ⟨h_x1, hw⟩ := hw
  rw [hw] at hI
  subst h_x1
  refine lv_istore_n (lv' := [(3, .int (nI s1)), (0, .ref o), (1, .int n1), (2, .int a2)]) hx hb d_Mo_told_5 rfl hl (by decide) rfl (fun ls hl => ?_)
  refine lv_aload_n hx hb d_Mo_told_6 rfl (lv_at hl 1 rfl) ?_
  refine lv_iload_n hx hb d_Mo_told_7 rfl (lv_at hl 0 rfl) ?_
  refine lv_if_ge (tgt := 15) hx hb d_Mo_told_8 (by decide) (fun c_8 => ?_) (fun q9 => absurd (Int32.not_lt.mp (nI_nn (by omega))) q9)
  refine lv_iload_n hx hb d_Mo_told_15 rfl (lv_at hl 3 rfl) ?_
  refine lv_if_lt (tgt := 25) hx hb d_Mo_told_16 (by decide) (fun c_16 => ?_) (fun c_16 => ?_)
  · have hr16 := c_16
    refine lv_iconst (v := 2) hx hb d_Mo_told_25 (by decide) ?_
    refine lv_goto (tgt := 30) hx hb d_Mo_told_26 (by decide) ?_
    refine gw_put M hK hI hM.O i_Mo t_Mo tk_Mo n_Mo rfl 0 (by decide) f_Mo_94 rfl rfl rfl (kx (mo_ob q 2 (nI f0) (nI l0) (nI g0))) (fun x hx => ⟨_, hx, Nat.le_of_ble_eq_true rfl, rfl⟩) d_Mo_told_30 (fun H locs hI => ?_)
    obtain ⟨G2, hE_G2⟩ : ∃ z9, gw_up G o (kx (mo_ob q 2 (nI f0) (nI l0) (nI g0))) = z9 := ⟨_, rfl⟩
    rw [hE_G2] at hI
    have hf : gw_fr (mown o q) G G2 := hf.tr (by rw [← hE_G2]; exact gw_fr.up (Or.inl rfl))
    have hM : mdl D G2 o q B 2 f0 l0 g0 fu fn fx fi fl := by rw [← hE_G2]; exact hM.ob hM.f200 hM.l236 hM.g204
    refine lv_aload_n hx hb d_Mo_told_33 rfl (lv_at hl 1 rfl) ?_
    refine gw_get M hK hI hM.O i_Mo rfl 0 (by decide) f_Mo_94 rfl (Pv := fun v => v = .int 2) (fun x hx => ⟨_, _, hx, rfl, rfl⟩) d_Mo_told_34 (fun v hv => ?_)
    subst hv
    refine lv_if_le (tgt := 42) hx hb d_Mo_told_37 (by decide) (fun q9 => absurd q9 (by decide)) (fun c_37 => ?_)
    refine lv_lconst (v := 0) hx hb d_Mo_told_40 (by decide) ?_
    exact gw_lret M hr hlo hI d_Mo_told_41 (⟨Or.inl ⟨Or.inl c_16, hM⟩, hf⟩)
  · refine lv_iload_n hx hb d_Mo_told_19 rfl (lv_at hl 3 rfl) ?_
    refine lv_bipush (v := 7) hx hb d_Mo_told_20 (by decide) ?_
    refine lv_icmp_le (tgt := 29) hx hb d_Mo_told_22 (by decide) (fun c_22 => ?_) (fun c_22 => ?_)
    · refine lv_iconst (v := 0) hx hb d_Mo_told_29 (by decide) ?_
      refine gw_put M hK hI hM.O i_Mo t_Mo tk_Mo n_Mo rfl 0 (by decide) f_Mo_94 rfl rfl rfl (kx (mo_ob q 0 (nI f0) (nI l0) (nI g0))) (fun x hx => ⟨_, hx, Nat.le_of_ble_eq_true rfl, rfl⟩) d_Mo_told_30 (fun H locs hI => ?_)
      obtain ⟨G3, hE_G3⟩ : ∃ z9, gw_up G o (kx (mo_ob q 0 (nI f0) (nI l0) (nI g0))) = z9 := ⟨_, rfl⟩
      rw [hE_G3] at hI
      have hf : gw_fr (mown o q) G G3 := hf.tr (by rw [← hE_G3]; exact gw_fr.up (Or.inl rfl))
      have hM : mdl D G3 o q B 0 f0 l0 g0 fu fn fx fi fl := by rw [← hE_G3]; exact hM.ob hM.f200 hM.l236 hM.g204
      refine lv_aload_n hx hb d_Mo_told_33 rfl (lv_at hl 1 rfl) ?_
      refine gw_get M hK hI hM.O i_Mo rfl 0 (by decide) f_Mo_94 rfl (Pv := fun v => v = .int 0) (fun x hx => ⟨_, _, hx, rfl, rfl⟩) d_Mo_told_34 (fun v hv => ?_)
      subst hv
      refine lv_if_le (tgt := 42) hx hb d_Mo_told_37 (by decide) (fun c_37 => ?_) (fun q9 => absurd (by decide) q9)
      refine lv_iload_n hx hb d_Mo_told_42 rfl (lv_at hl 3 rfl) ?_
      obtain ⟨n, hn, ha2⟩ := in_le (n := 7) c_16 c_22 (by decide)
      have hjn : a2.toInt = n := by rw [ha2]; exact nI_toInt (by omega)
      clear ha2
      match n, hn, hjn with
      | 0, _, hjn =>
        refine lv_tableIn (tgt := 84) hx hb d_Mo_told_43 (by omega) (by omega) (off := 41) (by rw [hjn]; rfl) (by decide) ?_
        refine lv_aload_n hx hb d_Mo_told_84 rfl (lv_at hl 1 rfl) ?_
        refine gw_get M hK hI hM.O i_Mo rfl 8 (by decide) f_Mo_32 rfl (Pv := fun v => v = .ref (q 8)) (fun x hx => ⟨_, _, hx, rfl, rfl⟩) d_Mo_told_85 (fun v hv => ?_)
        subst hv
        refine lv_iload_n hx hb d_Mo_told_88 rfl (lv_at hl 0 rfl) ?_
        refine gw_laldx M hK hI hM.k8 (vp_in_nI hs1 (by decide)) d_Mo_told_89 ?_
        rw [show ((nI s1)).toNatClampNeg = s1 from (nI_clp (by omega))]
        exact gw_lret M hr hlo hI d_Mo_told_90 (⟨Or.inr ⟨fun q9 => q9.elim c_16 (fun h9 => h9 c_22), hM⟩, hf⟩)
      | 1, _, hjn =>
        refine lv_tableIn (tgt := 91) hx hb d_Mo_told_43 (by omega) (by omega) (off := 48) (by rw [hjn]; rfl) (by decide) ?_
        refine lv_aload_n hx hb d_Mo_told_91 rfl (lv_at hl 1 rfl) ?_
        refine gw_get M hK hI hM.O i_Mo rfl 10 (by decide) f_Mo_39 rfl (Pv := fun v => v = .ref (q 10)) (fun x hx => ⟨_, _, hx, rfl, rfl⟩) d_Mo_told_92 (fun v hv => ?_)
        subst hv
        refine lv_iload_n hx hb d_Mo_told_95 rfl (lv_at hl 0 rfl) ?_
        refine gw_lald M hK hI hM.k10 (vp_in_nI hs1 (by decide)) d_Mo_told_96 (fun x4 h_x4 => ?_)
        exact gw_lret M hr hlo hI d_Mo_told_97 (⟨Or.inr ⟨fun q9 => q9.elim c_16 (fun h9 => h9 c_22), hM⟩, hf⟩)
      | 2, _, hjn =>
        refine lv_tableIn (tgt := 98) hx hb d_Mo_told_43 (by omega) (by omega) (off := 55) (by rw [hjn]; rfl) (by decide) ?_
        refine lv_aload_n hx hb d_Mo_told_98 rfl (lv_at hl 1 rfl) ?_
        refine gw_get M hK hI hM.O i_Mo rfl 11 (by decide) f_Mo_42 rfl (Pv := fun v => v = .ref (q 11)) (fun x hx => ⟨_, _, hx, rfl, rfl⟩) d_Mo_told_99 (fun v hv => ?_)
        subst hv
        refine lv_iload_n hx hb d_Mo_told_102 rfl (lv_at hl 0 rfl) ?_
        refine gw_lald M hK hI hM.k11 (vp_in_nI hs1 (by decide)) d_Mo_told_103 (fun x5 h_x5 => ?_)
        exact gw_lret M hr hlo hI d_Mo_told_104 (⟨Or.inr ⟨fun q9 => q9.elim c_16 (fun h9 => h9 c_22), hM⟩, hf⟩)
      | 3, _, hjn =>
        refine lv_tableIn (tgt := 105) hx hb d_Mo_told_43 (by omega) (by omega) (off := 62) (by rw [hjn]; rfl) (by decide) ?_
        refine lv_aload_n hx hb d_Mo_told_105 rfl (lv_at hl 1 rfl) ?_
        refine gw_get M hK hI hM.O i_Mo rfl 12 (by decide) f_Mo_45 rfl (Pv := fun v => v = .ref (q 12)) (fun x hx => ⟨_, _, hx, rfl, rfl⟩) d_Mo_told_106 (fun v hv => ?_)
        subst hv
        refine lv_iload_n hx hb d_Mo_told_109 rfl (lv_at hl 0 rfl) ?_
        refine gw_iald M hK hI hM.k12 (vp_in_nI hs1 (by decide)) d_Mo_told_110 (fun x6 h_x6 => ?_)
        refine lv_i2l hx hb d_Mo_told_111 rfl ?_
        exact gw_lret M hr hlo hI d_Mo_told_112 (⟨Or.inr ⟨fun q9 => q9.elim c_16 (fun h9 => h9 c_22), hM⟩, hf⟩)
      | 4, _, hjn =>
        refine lv_tableIn (tgt := 113) hx hb d_Mo_told_43 (by omega) (by omega) (off := 70) (by rw [hjn]; rfl) (by decide) ?_
        refine lv_aload_n hx hb d_Mo_told_113 rfl (lv_at hl 1 rfl) ?_
        refine gw_get M hK hI hM.O i_Mo rfl 13 (by decide) f_Mo_48 rfl (Pv := fun v => v = .ref (q 13)) (fun x hx => ⟨_, _, hx, rfl, rfl⟩) d_Mo_told_114 (fun v hv => ?_)
        subst hv
        refine lv_iload_n hx hb d_Mo_told_117 rfl (lv_at hl 0 rfl) ?_
        refine gw_iald M hK hI hM.k13 (vp_in_nI hs1 (by decide)) d_Mo_told_118 (fun x7 h_x7 => ?_)
        refine lv_i2l hx hb d_Mo_told_119 rfl ?_
        exact gw_lret M hr hlo hI d_Mo_told_120 (⟨Or.inr ⟨fun q9 => q9.elim c_16 (fun h9 => h9 c_22), hM⟩, hf⟩)
      | 5, _, hjn =>
        refine lv_tableIn (tgt := 121) hx hb d_Mo_told_43 (by omega) (by omega) (off := 78) (by rw [hjn]; rfl) (by decide) ?_
        refine lv_aload_n hx hb d_Mo_told_121 rfl (lv_at hl 1 rfl) ?_
        refine gw_get M hK hI hM.O i_Mo rfl 9 (by decide) f_Mo_36 rfl (Pv := fun v => v = .ref (q 9)) (fun x hx => ⟨_, _, hx, rfl, rfl⟩) d_Mo_told_122 (fun v hv => ?_)
        subst hv
        refine lv_iload_n hx hb d_Mo_told_125 rfl (lv_at hl 0 rfl) ?_
        refine gw_ialdx M hK hI hM.k9 (vp_in_nI hs1 (by decide)) d_Mo_told_126 ?_
        rw [show ((nI s1)).toNatClampNeg = s1 from (nI_clp (by omega))]
        refine lv_i2l hx hb d_Mo_told_127 rfl ?_
        exact gw_lret M hr hlo hI d_Mo_told_128 (⟨Or.inr ⟨fun q9 => q9.elim c_16 (fun h9 => h9 c_22), hM⟩, hf⟩)
      | 6, _, hjn =>
        refine lv_tableIn (tgt := 129) hx hb d_Mo_told_43 (by omega) (by omega) (off := 86) (by rw [hjn]; rfl) (by decide) ?_
        refine lv_aload_n hx hb d_Mo_told_129 rfl (lv_at hl 1 rfl) ?_
        refine gw_get M hK hI hM.O i_Mo rfl 6 (by decide) f_Mo_26 rfl (Pv := fun v => v = .ref (q 6)) (fun x hx => ⟨_, _, hx, rfl, rfl⟩) d_Mo_told_130 (fun v hv => ?_)
        subst hv
        refine lv_iload_n hx hb d_Mo_told_133 rfl (lv_at hl 0 rfl) ?_
        refine gw_iald M hK hI hM.k6 (vp_in_nI hs1 (by decide)) d_Mo_told_134 (fun x8 h_x8 => ?_)
        refine lv_i2l hx hb d_Mo_told_135 rfl ?_
        exact gw_lret M hr hlo hI d_Mo_told_136 (⟨Or.inr ⟨fun q9 => q9.elim c_16 (fun h9 => h9 c_22), hM⟩, hf⟩)
      | 7, _, hjn =>
        refine lv_tableOut (tgt := 137) hx hb d_Mo_told_43 (by omega) (by decide) ?_
        refine lv_aload_n hx hb d_Mo_told_137 rfl (lv_at hl 1 rfl) ?_
        refine gw_get M hK hI hM.O i_Mo rfl 7 (by decide) f_Mo_29 rfl (Pv := fun v => v = .ref (q 7)) (fun x hx => ⟨_, _, hx, rfl, rfl⟩) d_Mo_told_138 (fun v hv => ?_)
        subst hv
        refine lv_iload_n hx hb d_Mo_told_141 rfl (lv_at hl 0 rfl) ?_
        refine gw_zaldx M hK hI hM.k7 (vp_in_nI hs1 (by decide)) d_Mo_told_142 ?_
        rw [show ((nI s1)).toNatClampNeg = s1 from (nI_clp (by omega))]
        refine lv_if_eq (tgt := 150) hx hb d_Mo_told_143 (by decide) (fun c_143 => ?_) (fun c_143 => ?_)
        · refine lv_lconst (v := 0) hx hb d_Mo_told_150 (by decide) ?_
          exact gw_lret M hr hlo hI d_Mo_told_151 (⟨Or.inr ⟨fun q9 => q9.elim c_16 (fun h9 => h9 c_22), hM⟩, hf⟩)
        · refine lv_lconst (v := 1) hx hb d_Mo_told_146 (by decide) ?_
          refine lv_goto (tgt := 151) hx hb d_Mo_told_147 (by decide) ?_
          exact gw_lret M hr hlo hI d_Mo_told_151 (⟨Or.inr ⟨fun q9 => q9.elim c_16 (fun h9 => h9 c_22), hM⟩, hf⟩)
      | j + 8, hj, _ => exact absurd hj (by omega)
    · have hr22 := c_22
      refine lv_iconst (v := 2) hx hb d_Mo_told_25 (by decide) ?_
      refine lv_goto (tgt := 30) hx hb d_Mo_told_26 (by decide) ?_
      refine gw_put M hK hI hM.O i_Mo t_Mo tk_Mo n_Mo rfl 0 (by decide) f_Mo_94 rfl rfl rfl (kx (mo_ob q 2 (nI f0) (nI l0) (nI g0))) (fun x hx => ⟨_, hx, Nat.le_of_ble_eq_true rfl, rfl⟩) d_Mo_told_30 (fun H locs hI => ?_)
      obtain ⟨G9, hE_G9⟩ : ∃ z9, gw_up G o (kx (mo_ob q 2 (nI f0) (nI l0) (nI g0))) = z9 := ⟨_, rfl⟩
      rw [hE_G9] at hI
      have hf : gw_fr (mown o q) G G9 := hf.tr (by rw [← hE_G9]; exact gw_fr.up (Or.inl rfl))
      have hM : mdl D G9 o q B 2 f0 l0 g0 fu fn fx fi fl := by rw [← hE_G9]; exact hM.ob hM.f200 hM.l236 hM.g204
      refine lv_aload_n hx hb d_Mo_told_33 rfl (lv_at hl 1 rfl) ?_
      refine gw_get M hK hI hM.O i_Mo rfl 0 (by decide) f_Mo_94 rfl (Pv := fun v => v = .int 2) (fun x hx => ⟨_, _, hx, rfl, rfl⟩) d_Mo_told_34 (fun v hv => ?_)
      subst hv
      refine lv_if_le (tgt := 42) hx hb d_Mo_told_37 (by decide) (fun q9 => absurd q9 (by decide)) (fun c_37 => ?_)
      refine lv_lconst (v := 0) hx hb d_Mo_told_40 (by decide) ?_
      exact gw_lret M hr hlo hI d_Mo_told_41 (⟨Or.inl ⟨Or.inr c_22, hM⟩, hf⟩)

abbrev rm_Mo_name : Room := { frames := 0, cells := 0, slots := 0, locals := 0 }
set_option maxHeartbeats 4000000 in
set_option maxRecDepth 100000 in
theorem c_Mo_name (l : Launch) {D : gw_D} {Hs : Heap} {G : gw_G} (o : Nat) (q : Nat → Nat) (B : Nat) (t0 : Int32) (f0 l0 g0 : Nat) (fu fn fx fi : Nat → Int32) (fl : Nat → Int64) (hM : mdl D G o q B t0 f0 l0 g0 fu fn fx fi fl) (a1 : Int32) : Met l y_Mo_name (Cond.code y_Mo_name b_Mo_name 5 (some .int) :: tb) rm_Mo_name (gw_Pc D Hs G [.ref o, .int a1]) (gw_Qi D Hs (fun _ G1 => mdl D G1 o q B 0 f0 l0 g0 fu fn fx fi fl ∧ gw_fr (mown o q) G G1)) 0 0 (gw_A Hs) := by
  refine gw_met (by decide) (Nat.le_of_ble_eq_true rfl) ?_
  intro p e s m args below meth c M hK hr hlo hin hI ls hl
  have hx := M.1
  have hb := M.2.1
  have hl : lv_has ls 5 [(0, .ref o), (1, .int a1)] := hl
  have hf : gw_fr (mown o q) G G := gw_fr.rf
  refine lv_aload_n hx hb d_Mo_name_0 rfl (lv_at hl 0 rfl) ?_
  refine lv_iconst (v := 0) hx hb d_Mo_name_1 (by decide) ?_
  refine gw_put M hK hI hM.O i_Mo t_Mo tk_Mo n_Mo rfl 0 (by decide) f_Mo_94 rfl rfl rfl (kx (mo_ob q 0 (nI f0) (nI l0) (nI g0))) (fun x hx => ⟨_, hx, Nat.le_of_ble_eq_true rfl, rfl⟩) d_Mo_name_2 (fun H locs hI => ?_)
  obtain ⟨G1, hE_G1⟩ : ∃ z9, gw_up G o (kx (mo_ob q 0 (nI f0) (nI l0) (nI g0))) = z9 := ⟨_, rfl⟩
  rw [hE_G1] at hI
  have hf : gw_fr (mown o q) G G1 := hf.tr (by rw [← hE_G1]; exact gw_fr.up (Or.inl rfl))
  have hM : mdl D G1 o q B 0 f0 l0 g0 fu fn fx fi fl := by rw [← hE_G1]; exact hM.ob hM.f200 hM.l236 hM.g204
  refine lv_iconst (v := 0) hx hb d_Mo_name_5 (by decide) ?_
  refine lv_istore_n (lv' := [(2, .int 0), (0, .ref o), (1, .int a1)]) hx hb d_Mo_name_6 rfl hl (by decide) rfl (fun ls hl => ?_)
  have L_7 : ∀ (n9 : Nat) (k : Nat) (y2 : Int32) (H : Heap) (locs : List Loc) (ls : Array Slot), k ≤ 16 → y2 = nI k → 16 - k < n9 → gw_I D Hs G1 s.heap H locs → lv_has ls 5 [(2, .int y2), (0, .ref o), (1, .int a1)] → W p l e rm_Mo_name s m args below meth c H locs 0 0 (MQ below (gw_Qi D Hs (fun _ G1 => mdl D G1 o q B 0 f0 l0 g0 fu fn fx fi fl ∧ gw_fr (mown o q) G G1)) args s 0 0 (gw_A Hs)) (F0 m 7 ls []) := by
    intro n9
    induction n9 with
    | zero =>
      intro k y2 H locs ls bk hk hm hI hl
      exact absurd hm (Nat.not_lt_zero _)
    | succ n9 ih_7 =>
      intro k y2 H locs ls bk hk hm_7 hI hl
      refine lv_iload_n hx hb d_Mo_name_7 rfl (lv_at hl 0 rfl) ?_
      refine lv_bipush (v := 16) hx hb d_Mo_name_8 (by decide) ?_
      refine lv_icmp_ge (tgt := 101) hx hb d_Mo_name_10 (by decide) (fun c_10 => ?_) (fun c_10 => ?_)
      · refine lv_iconst (v := (-1)) hx hb d_Mo_name_101 (by decide) ?_
        exact gw_iret M hr hlo hI d_Mo_name_102 (⟨hM, hf⟩)
      · have lk : k < 16 := nb_lt (n := 16) hk c_10 (by decide) (z_31 bk)
        refine lv_iconst (v := 0) hx hb d_Mo_name_13 (by decide) ?_
        refine lv_istore_n (lv' := [(3, .int 0), (2, .int y2), (0, .ref o), (1, .int a1)]) hx hb d_Mo_name_14 rfl hl (by decide) rfl (fun ls hl => ?_)
        refine lv_iconst (v := 0) hx hb d_Mo_name_15 (by decide) ?_
        refine lv_istore (lv' := [(4, .int 0), (3, .int 0), (2, .int y2), (0, .ref o), (1, .int a1)]) hx hb d_Mo_name_16 hl (by decide) rfl (fun ls hl => ?_)
        have L_18 : ∀ (n9 : Nat) (j : Nat) (y3 : Int32) (y4 : Int32) (H : Heap) (locs : List Loc) (ls : Array Slot), j ≤ 16 → y4 = nI j → 16 - j < n9 → gw_I D Hs G1 s.heap H locs → lv_has ls 5 [(4, .int y4), (3, .int y3), (2, .int y2), (0, .ref o), (1, .int a1)] → W p l e rm_Mo_name s m args below meth c H locs 0 0 (MQ below (gw_Qi D Hs (fun _ G1 => mdl D G1 o q B 0 f0 l0 g0 fu fn fx fi fl ∧ gw_fr (mown o q) G G1)) args s 0 0 (gw_A Hs)) (F0 m 18 ls []) := by
          intro n9
          induction n9 with
          | zero =>
            intro j y3 y4 H locs ls bj hj hm hI hl
            exact absurd hm (Nat.not_lt_zero _)
          | succ n9 ih_18 =>
            intro j y3 y4 H locs ls bj hj hm_18 hI hl
            refine lv_iload hx hb d_Mo_name_18 (lv_at hl 0 rfl) ?_
            refine lv_bipush (v := 16) hx hb d_Mo_name_20 (by decide) ?_
            refine lv_icmp_ge (tgt := 74) hx hb d_Mo_name_22 (by decide) (fun c_22 => ?_) (fun c_22 => ?_)
            · refine lv_aload_n hx hb d_Mo_name_74 rfl (lv_at hl 3 rfl) ?_
              refine gw_get M hK hI hM.O i_Mo rfl 2 (by decide) f_Mo_13 rfl (Pv := fun v => v = .ref (q 2)) (fun x hx => ⟨_, _, hx, rfl, rfl⟩) d_Mo_name_75 (fun v hv => ?_)
              subst hv
              refine lv_iload_n hx hb d_Mo_name_78 rfl (lv_at hl 2 rfl) ?_
              refine gw_zaldx M hK hI hM.k2 (nb_in hk lk) d_Mo_name_79 ?_
              rw [show (y2).toNatClampNeg = k from (nb_cl hk)]
              refine lv_if_eq (tgt := 95) hx hb d_Mo_name_80 (by decide) (fun c_80 => ?_) (fun c_80 => ?_)
              · obtain ⟨x2, e_x2⟩ : ∃ ww9 : Int32, ww9 = y2 + 1 := ⟨_, rfl⟩
                refine lv_iinc (v := x2) (lv' := [(2, .int x2), (4, .int y4), (3, .int y3), (0, .ref o), (1, .int a1)]) hx hb d_Mo_name_95 hl (k := 2) rfl (by rw [e_x2]; rfl) (by decide) rfl (fun ls hl => ?_)
                refine lv_goto (tgt := 7) hx hb d_Mo_name_98 (by decide) ?_
                exact ih_7 (k + 1) x2 _ _ _ lk (nb_s e_x2 hk) (z_m hm_7 lk) hI (lv_sub hl [0, 3, 4] rfl)
              · refine lv_iload_n hx hb d_Mo_name_83 rfl (lv_at hl 1 rfl) ?_
                refine lv_iload_n hx hb d_Mo_name_84 rfl (lv_at hl 4 rfl) ?_
                refine lv_icmp_ne (tgt := 95) hx hb d_Mo_name_85 (by decide) (fun c_85 => ?_) (fun c_85 => ?_)
                · obtain ⟨x3, e_x3⟩ : ∃ ww9 : Int32, ww9 = y2 + 1 := ⟨_, rfl⟩
                  refine lv_iinc (v := x3) (lv' := [(2, .int x3), (4, .int y4), (3, .int y3), (0, .ref o), (1, .int a1)]) hx hb d_Mo_name_95 hl (k := 2) rfl (by rw [e_x3]; rfl) (by decide) rfl (fun ls hl => ?_)
                  refine lv_goto (tgt := 7) hx hb d_Mo_name_98 (by decide) ?_
                  exact ih_7 (k + 1) x3 _ _ _ lk (nb_s e_x3 hk) (z_m hm_7 lk) hI (lv_sub hl [0, 3, 4] rfl)
                · refine lv_aload_n hx hb d_Mo_name_88 rfl (lv_at hl 3 rfl) ?_
                  refine gw_get M hK hI hM.O i_Mo rfl 3 (by decide) f_Mo_17 rfl (Pv := fun v => v = .ref (q 3)) (fun x hx => ⟨_, _, hx, rfl, rfl⟩) d_Mo_name_89 (fun v hv => ?_)
                  subst hv
                  refine lv_iload_n hx hb d_Mo_name_92 rfl (lv_at hl 2 rfl) ?_
                  refine gw_ialdx M hK hI hM.k3 (nb_in hk lk) d_Mo_name_93 ?_
                  rw [show (y2).toNatClampNeg = k from (nb_cl hk)]
                  exact gw_iret M hr hlo hI d_Mo_name_94 (⟨hM, hf⟩)
            · have lj : j < 16 := nb_lt (n := 16) hj c_22 (by decide) (z_31 bj)
              refine lv_iload_n hx hb d_Mo_name_25 rfl (lv_at hl 1 rfl) ?_
              refine lv_aload_n hx hb d_Mo_name_26 rfl (lv_at hl 3 rfl) ?_
              refine gw_get M hK hI hM.O i_Mo rfl 2 (by decide) f_Mo_13 rfl (Pv := fun v => v = .ref (q 2)) (fun x hx => ⟨_, _, hx, rfl, rfl⟩) d_Mo_name_27 (fun v hv => ?_)
              subst hv
              refine lv_iload hx hb d_Mo_name_30 (lv_at hl 0 rfl) ?_
              refine gw_zaldx M hK hI hM.k2 (nb_in hj lj) d_Mo_name_32 ?_
              rw [show (y4).toNatClampNeg = j from (nb_cl hj)]
              refine lv_if_eq (tgt := 65) hx hb d_Mo_name_33 (by decide) (fun c_33 => ?_) (fun c_33 => ?_)
              · refine lv_iconst (v := 0) hx hb d_Mo_name_65 (by decide) ?_
                refine lv_iadd hx hb d_Mo_name_66 ?_
                refine lv_topi (fun x4 e_x4 => ?_)
                refine lv_istore_n (lv' := [(3, .int x4), (4, .int y4), (2, .int y2), (0, .ref o), (1, .int a1)]) hx hb d_Mo_name_67 rfl hl (by decide) rfl (fun ls hl => ?_)
                obtain ⟨x5, e_x5⟩ : ∃ ww9 : Int32, ww9 = y4 + 1 := ⟨_, rfl⟩
                refine lv_iinc (v := x5) (lv' := [(4, .int x5), (3, .int x4), (2, .int y2), (0, .ref o), (1, .int a1)]) hx hb d_Mo_name_68 hl (k := 1) rfl (by rw [e_x5]; rfl) (by decide) rfl (fun ls hl => ?_)
                refine lv_goto (tgt := 18) hx hb d_Mo_name_71 (by decide) ?_
                exact ih_18 (j + 1) x4 x5 _ _ _ lj (nb_s e_x5 hj) (z_m hm_18 lj) hI (lv_sub hl [0, 1, 2, 3, 4] rfl)
              · refine lv_aload_n hx hb d_Mo_name_36 rfl (lv_at hl 3 rfl) ?_
                refine gw_get M hK hI hM.O i_Mo rfl 2 (by decide) f_Mo_13 rfl (Pv := fun v => v = .ref (q 2)) (fun x hx => ⟨_, _, hx, rfl, rfl⟩) d_Mo_name_37 (fun v hv => ?_)
                subst hv
                refine lv_iload_n hx hb d_Mo_name_40 rfl (lv_at hl 2 rfl) ?_
                refine gw_zaldx M hK hI hM.k2 (nb_in hk lk) d_Mo_name_41 ?_
                rw [show (y2).toNatClampNeg = k from (nb_cl hk)]
                refine lv_if_eq (tgt := 65) hx hb d_Mo_name_42 (by decide) (fun c_42 => ?_) (fun c_42 => ?_)
                · refine lv_iconst (v := 0) hx hb d_Mo_name_65 (by decide) ?_
                  refine lv_iadd hx hb d_Mo_name_66 ?_
                  refine lv_topi (fun x6 e_x6 => ?_)
                  refine lv_istore_n (lv' := [(3, .int x6), (4, .int y4), (2, .int y2), (0, .ref o), (1, .int a1)]) hx hb d_Mo_name_67 rfl hl (by decide) rfl (fun ls hl => ?_)
                  obtain ⟨x7, e_x7⟩ : ∃ ww9 : Int32, ww9 = y4 + 1 := ⟨_, rfl⟩
                  refine lv_iinc (v := x7) (lv' := [(4, .int x7), (3, .int x6), (2, .int y2), (0, .ref o), (1, .int a1)]) hx hb d_Mo_name_68 hl (k := 1) rfl (by rw [e_x7]; rfl) (by decide) rfl (fun ls hl => ?_)
                  refine lv_goto (tgt := 18) hx hb d_Mo_name_71 (by decide) ?_
                  exact ih_18 (j + 1) x6 x7 _ _ _ lj (nb_s e_x7 hj) (z_m hm_18 lj) hI (lv_sub hl [0, 1, 2, 3, 4] rfl)
                · refine lv_aload_n hx hb d_Mo_name_45 rfl (lv_at hl 3 rfl) ?_
                  refine gw_get M hK hI hM.O i_Mo rfl 3 (by decide) f_Mo_17 rfl (Pv := fun v => v = .ref (q 3)) (fun x hx => ⟨_, _, hx, rfl, rfl⟩) d_Mo_name_46 (fun v hv => ?_)
                  subst hv
                  refine lv_iload hx hb d_Mo_name_49 (lv_at hl 0 rfl) ?_
                  refine gw_ialdx M hK hI hM.k3 (nb_in hj lj) d_Mo_name_51 ?_
                  rw [show (y4).toNatClampNeg = j from (nb_cl hj)]
                  refine lv_aload_n hx hb d_Mo_name_52 rfl (lv_at hl 3 rfl) ?_
                  refine gw_get M hK hI hM.O i_Mo rfl 3 (by decide) f_Mo_17 rfl (Pv := fun v => v = .ref (q 3)) (fun x hx => ⟨_, _, hx, rfl, rfl⟩) d_Mo_name_53 (fun v hv => ?_)
                  subst hv
                  refine lv_iload_n hx hb d_Mo_name_56 rfl (lv_at hl 2 rfl) ?_
                  refine gw_ialdx M hK hI hM.k3 (nb_in hk lk) d_Mo_name_57 ?_
                  rw [show (y2).toNatClampNeg = k from (nb_cl hk)]
                  refine lv_icmp_ge (tgt := 65) hx hb d_Mo_name_58 (by decide) (fun c_58 => ?_) (fun c_58 => ?_)
                  · refine lv_iconst (v := 0) hx hb d_Mo_name_65 (by decide) ?_
                    refine lv_iadd hx hb d_Mo_name_66 ?_
                    refine lv_topi (fun x8 e_x8 => ?_)
                    refine lv_istore_n (lv' := [(3, .int x8), (4, .int y4), (2, .int y2), (0, .ref o), (1, .int a1)]) hx hb d_Mo_name_67 rfl hl (by decide) rfl (fun ls hl => ?_)
                    obtain ⟨x9, e_x9⟩ : ∃ ww9 : Int32, ww9 = y4 + 1 := ⟨_, rfl⟩
                    refine lv_iinc (v := x9) (lv' := [(4, .int x9), (3, .int x8), (2, .int y2), (0, .ref o), (1, .int a1)]) hx hb d_Mo_name_68 hl (k := 1) rfl (by rw [e_x9]; rfl) (by decide) rfl (fun ls hl => ?_)
                    refine lv_goto (tgt := 18) hx hb d_Mo_name_71 (by decide) ?_
                    exact ih_18 (j + 1) x8 x9 _ _ _ lj (nb_s e_x9 hj) (z_m hm_18 lj) hI (lv_sub hl [0, 1, 2, 3, 4] rfl)
                  · refine lv_iconst (v := 1) hx hb d_Mo_name_61 (by decide) ?_
                    refine lv_goto (tgt := 66) hx hb d_Mo_name_62 (by decide) ?_
                    refine lv_iadd hx hb d_Mo_name_66 ?_
                    refine lv_topi (fun x10 e_x10 => ?_)
                    refine lv_istore_n (lv' := [(3, .int x10), (4, .int y4), (2, .int y2), (0, .ref o), (1, .int a1)]) hx hb d_Mo_name_67 rfl hl (by decide) rfl (fun ls hl => ?_)
                    obtain ⟨x11, e_x11⟩ : ∃ ww9 : Int32, ww9 = y4 + 1 := ⟨_, rfl⟩
                    refine lv_iinc (v := x11) (lv' := [(4, .int x11), (3, .int x10), (2, .int y2), (0, .ref o), (1, .int a1)]) hx hb d_Mo_name_68 hl (k := 1) rfl (by rw [e_x11]; rfl) (by decide) rfl (fun ls hl => ?_)
                    refine lv_goto (tgt := 18) hx hb d_Mo_name_71 (by decide) ?_
                    exact ih_18 (j + 1) x10 x11 _ _ _ lj (nb_s e_x11 hj) (z_m hm_18 lj) hI (lv_sub hl [0, 1, 2, 3, 4] rfl)
        exact L_18 _ 0 0 0 _ _ _ (Nat.zero_le _) rfl (Nat.lt_succ_self _) hI (lv_sub hl [0, 1, 2, 3, 4] rfl)
  exact L_7 _ 0 0 _ _ _ (Nat.zero_le _) rfl (Nat.lt_succ_self _) hI (lv_sub hl [0, 1, 2] rfl)
