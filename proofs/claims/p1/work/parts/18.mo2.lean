abbrev rm_Mo_feed : Room := { frames := 0, cells := 0, slots := 0, locals := 0 }
set_option maxHeartbeats 4000000 in
set_option maxRecDepth 100000 in
theorem c_Mo_feed (l : Launch) {D : gw_D} {Hs : Heap} {G : gw_G} (n0 : Int32) (b0 : Int64) (o : Nat) (q : Nat → Nat) (t0 l0 g0 : Int32) (hO : G o = some (kx (mo_ob q t0 0 l0 g0))) (hA : mo_ok D tZ q G) : Met l y_Mo_feed (Cond.code y_Mo_feed b_Mo_feed 5 (some .int) :: tb) rm_Mo_feed (gw_Pc D Hs G [.ref o, .int n0, .long b0]) (gw_Qi D Hs (fun r G1 => ((n0 < 1 ∨ ¬ n0 ≤ 8) ∧ G1 = gw_up G o (kx (mo_ob q 1 0 l0 g0))) ∨ ((¬ n0 < 1 ∧ n0 ≤ 8) ∧ r = n0 ∧ G1 = gw_up G o (kx (mo_ob q 0 n0 l0 g0))))) 0 0 (gw_A Hs) := by
  refine gw_met (by decide) (Nat.le_of_ble_eq_true rfl) ?_
  intro p e s m args below meth c M hK hr hlo hin hI ls hl
  have hx := M.1
  have hb := M.2.1
  have hl : lv_has ls 5 [(0, .ref o), (1, .int n0), (2, .long b0)] := hl
  have hA0 := hA
  have hO0 := hO
  refine lv_aload_n hx hb d_Mo_feed_0 rfl (lv_at hl 0 rfl) ?_
  refine lv_iload_n hx hb d_Mo_feed_1 rfl (lv_at hl 1 rfl) ?_
  refine lv_iconst (v := 1) hx hb d_Mo_feed_2 (by decide) ?_
  refine lv_icmp_lt (tgt := 12) hx hb d_Mo_feed_3 (by decide) (fun c_3 => ?_) (fun c_3 => ?_)
  · refine lv_iconst (v := 1) hx hb d_Mo_feed_12 (by decide) ?_
    refine lv_goto (tgt := 17) hx hb d_Mo_feed_13 (by decide) ?_
    refine gw_put M hK hI hO i_Mo t_Mo tk_Mo n_Mo rfl 0 (by decide) f_Mo_94 rfl rfl rfl (kx (mo_ob q 1 0 l0 g0)) (fun x hx => ⟨_, hx, Nat.le_of_ble_eq_true rfl, rfl⟩) d_Mo_feed_17 (fun H locs hI => ?_)
    obtain ⟨G1, hE_G1⟩ : ∃ z9, gw_up G o (kx (mo_ob q 1 0 l0 g0)) = z9 := ⟨_, rfl⟩
    rw [hE_G1] at hI
    have hG3 : G1 o = some (kx (mo_ob q 1 0 l0 g0)) := by rw [← hE_G1]; exact gw_up_s
    have hs2 : gw_fr (fun b => b = o) G G1 := by rw [← hE_G1]; exact gw_fr.up rfl
    have hA := hA.fr hO hs2
    refine lv_aload_n hx hb d_Mo_feed_20 rfl (lv_at hl 0 rfl) ?_
    refine gw_get M hK hI hG3 i_Mo rfl 0 (by decide) f_Mo_94 rfl (Pv := fun v => v = .int 1) (fun x hx => ⟨_, _, hx, rfl, rfl⟩) d_Mo_feed_21 (fun v hv => ?_)
    subst hv
    refine lv_if_le (tgt := 29) hx hb d_Mo_feed_24 (by decide) (fun q9 => absurd q9 (by decide)) (fun c_24 => ?_)
    refine lv_iconst (v := 0) hx hb d_Mo_feed_27 (by decide) ?_
    exact gw_iret M hr hlo hI d_Mo_feed_28 (Or.inl ⟨Or.inl c_3, (by first | rfl | exact hE_G1.symm | (rw [← hE_G1]; simp only [gw_up_up]) | (simp only [← hE_G1, gw_up_up]))⟩)
  · refine lv_iload_n hx hb d_Mo_feed_6 rfl (lv_at hl 1 rfl) ?_
    refine lv_bipush (v := 8) hx hb d_Mo_feed_7 (by decide) ?_
    refine lv_icmp_le (tgt := 16) hx hb d_Mo_feed_9 (by decide) (fun c_9 => ?_) (fun c_9 => ?_)
    · obtain ⟨n, hn1, hn8, hn⟩ := n1_of c_3 c_9
      refine lv_iconst (v := 0) hx hb d_Mo_feed_16 (by decide) ?_
      refine gw_put M hK hI hO i_Mo t_Mo tk_Mo n_Mo rfl 0 (by decide) f_Mo_94 rfl rfl rfl (kx (mo_ob q 0 0 l0 g0)) (fun x hx => ⟨_, hx, Nat.le_of_ble_eq_true rfl, rfl⟩) d_Mo_feed_17 (fun H locs hI => ?_)
      obtain ⟨G4, hE_G4⟩ : ∃ z9, gw_up G o (kx (mo_ob q 0 0 l0 g0)) = z9 := ⟨_, rfl⟩
      rw [hE_G4] at hI
      have hG6 : G4 o = some (kx (mo_ob q 0 0 l0 g0)) := by rw [← hE_G4]; exact gw_up_s
      have hs5 : gw_fr (fun b => b = o) G G4 := by rw [← hE_G4]; exact gw_fr.up rfl
      have hA := hA.fr hO hs5
      refine lv_aload_n hx hb d_Mo_feed_20 rfl (lv_at hl 0 rfl) ?_
      refine gw_get M hK hI hG6 i_Mo rfl 0 (by decide) f_Mo_94 rfl (Pv := fun v => v = .int 0) (fun x hx => ⟨_, _, hx, rfl, rfl⟩) d_Mo_feed_21 (fun v hv => ?_)
      subst hv
      refine lv_if_le (tgt := 29) hx hb d_Mo_feed_24 (by decide) (fun c_24 => ?_) (fun q9 => absurd (by decide) q9)
      refine lv_aload_n hx hb d_Mo_feed_29 rfl (lv_at hl 0 rfl) ?_
      refine gw_get M hK hI hG6 i_Mo rfl 17 (by decide) f_Mo_148 rfl (Pv := fun v => v = .int 0) (fun x hx => ⟨_, _, hx, rfl, rfl⟩) d_Mo_feed_30 (fun v hv => ?_)
      subst hv
      refine lv_iload_n hx hb d_Mo_feed_33 rfl (lv_at hl 1 rfl) ?_
      refine lv_iadd hx hb d_Mo_feed_34 ?_
      refine lv_sipush (v := 200) hx hb d_Mo_feed_35 (by decide) ?_
      refine lv_icmp_le (tgt := 43) hx hb d_Mo_feed_38 (by decide) (fun c_38 => ?_) (fun q9 => absurd (by rw [hn, show (0 : Int32) + nI n = nI n from by rw [show (0 : Int32) = nI 0 from rfl, nI_add, Nat.zero_add]]; exact nI_le (a := n) (b := 200) (Nat.le_trans hn8 (by decide)) (by decide)) q9)
      refine lv_iconst (v := 0) hx hb d_Mo_feed_43 (by decide) ?_
      refine lv_istore (lv' := [(4, .int 0), (0, .ref o), (1, .int n0), (2, .long b0)]) hx hb d_Mo_feed_44 hl (by decide) rfl (fun ls hl => ?_)
      have L_46 : ∀ (n9 : Nat) (k : Nat) (y4 : Int32) (Gk : gw_G) (H : Heap) (locs : List Loc) (ls : Array Slot), k ≤ n → y4 = nI k → Gk = gw_up G o (kx (mo_ob q 0 (nI k) l0 g0)) → n - k < n9 → gw_I D Hs Gk s.heap H locs → lv_has ls 5 [(4, .int y4), (0, .ref o), (1, .int n0), (2, .long b0)] → W p l e rm_Mo_feed s m args below meth c H locs 0 0 (MQ below (gw_Qi D Hs (fun r G1 => ((n0 < 1 ∨ ¬ n0 ≤ 8) ∧ G1 = gw_up G o (kx (mo_ob q 1 0 l0 g0))) ∨ ((¬ n0 < 1 ∧ n0 ≤ 8) ∧ r = n0 ∧ G1 = gw_up G o (kx (mo_ob q 0 n0 l0 g0))))) args s 0 0 (gw_A Hs)) (F0 m 46 ls []) := by
        intro n9
        induction n9 with
        | zero =>
          intro k y4 Gk H locs ls hkn hk hGe hm hI hl
          exact absurd hm (Nat.not_lt_zero _)
        | succ n9 ih_46 =>
          intro k y4 Gk H locs ls hkn hk hGe hm_46 hI hl
          have hOk : Gk o = some (kx (mo_ob q 0 (nI k) l0 g0)) := by rw [hGe]; exact gw_up_s
          have hA : mo_ok D tZ q Gk := hA0.fr hO0 (by rw [hGe]; exact gw_fr.up rfl)
          refine lv_iload hx hb d_Mo_feed_46 (lv_at hl 0 rfl) ?_
          refine lv_iload_n hx hb d_Mo_feed_48 rfl (lv_at hl 2 rfl) ?_
          refine lv_icmp_ge (tgt := 89) hx hb d_Mo_feed_49 (by decide) (fun c_49 => ?_) (fun c_49 => ?_)
          · have hkn2 : k = n := Nat.le_antisymm hkn (nb_ge hk (by rw [← hn]; exact c_49) (by omega) (by omega))
            subst hkn2
            refine lv_aload_n hx hb d_Mo_feed_89 rfl (lv_at hl 1 rfl) ?_
            refine gw_get M hK hI hOk i_Mo rfl 17 (by decide) f_Mo_148 rfl (Pv := fun v => v = .int (nI k)) (fun x hx => ⟨_, _, hx, rfl, rfl⟩) d_Mo_feed_90 (fun v hv => ?_)
            subst hv
            exact gw_iret M hr hlo hI d_Mo_feed_93 (Or.inr ⟨⟨c_3, c_9⟩, hn.symm, by rw [hGe, ← hn]⟩)
          · have hlt : k < n := nb_lt hk (by rw [← hn]; exact c_49) (by omega) (by omega)
            refine lv_aload_n hx hb d_Mo_feed_52 rfl (lv_at hl 1 rfl) ?_
            refine gw_get M hK hI hOk i_Mo rfl 16 (by decide) f_Mo_57 rfl (Pv := fun v => v = .ref (q 16)) (fun x hx => ⟨_, _, hx, rfl, rfl⟩) d_Mo_feed_53 (fun v hv => ?_)
            subst hv
            refine lv_aload_n hx hb d_Mo_feed_56 rfl (lv_at hl 1 rfl) ?_
            refine gw_get M hK hI hOk i_Mo rfl 17 (by decide) f_Mo_148 rfl (Pv := fun v => v = .int (nI k)) (fun x hx => ⟨_, _, hx, rfl, rfl⟩) d_Mo_feed_57 (fun v hv => ?_)
            subst hv
            refine lv_lload_n hx hb d_Mo_feed_60 rfl (lv_at hl 3 rfl) ?_
            refine lv_bipush (v := 8) hx hb d_Mo_feed_61 (by decide) ?_
            refine lv_iload hx hb d_Mo_feed_63 (lv_at hl 0 rfl) ?_
            refine lv_imul hx hb d_Mo_feed_65 ?_
            refine lv_lshr hx hb d_Mo_feed_66 rfl ?_
            refine lv_ldc2 (v := 255) hx hb M.2.2.2.1 (M.2.2.2.2 _ o_Mo_98) d_Mo_feed_67 ?_
            refine lv_land hx hb d_Mo_feed_70 ?_
            refine lv_l2i hx hb d_Mo_feed_71 rfl ?_
            refine lv_topi (fun x7 e_x7 => ?_)
            refine gw_iast M hK hI (hA.2 16 rfl : _ = some (kA D 0 200 tT)) (vp_in_nI (n := k) (by omega) (by decide)) trivial d_Mo_feed_72 (fun H locs hI => ?_)
            refine lv_aload_n hx hb d_Mo_feed_73 rfl (lv_at hl 1 rfl) ?_
            refine lv_dup hx hb d_Mo_feed_74 rfl ?_
            refine gw_get M hK hI hOk i_Mo rfl 17 (by decide) f_Mo_148 rfl (Pv := fun v => v = .int (nI k)) (fun x hx => ⟨_, _, hx, rfl, rfl⟩) d_Mo_feed_75 (fun v hv => ?_)
            subst hv
            refine lv_iconst (v := 1) hx hb d_Mo_feed_78 (by decide) ?_
            refine lv_iadd hx hb d_Mo_feed_79 ?_
            refine lv_topi (fun x8 e_x8 => ?_)
            refine gw_put M hK hI hOk i_Mo t_Mo tk_Mo n_Mo rfl 17 (by decide) f_Mo_148 rfl rfl rfl (kx (mo_ob q 0 x8 l0 g0)) (fun x hx => ⟨_, hx, Nat.le_of_ble_eq_true rfl, rfl⟩) d_Mo_feed_80 (fun H locs hI => ?_)
            obtain ⟨G9, hE_G9⟩ : ∃ z9, gw_up Gk o (kx (mo_ob q 0 x8 l0 g0)) = z9 := ⟨_, rfl⟩
            rw [hE_G9] at hI
            have hG11 : G9 o = some (kx (mo_ob q 0 x8 l0 g0)) := by rw [← hE_G9]; exact gw_up_s
            have hs10 : gw_fr (fun b => b = o) Gk G9 := by rw [← hE_G9]; exact gw_fr.up rfl
            have hA := hA.fr hOk hs10
            obtain ⟨x12, e_x12⟩ : ∃ ww9 : Int32, ww9 = y4 + 1 := ⟨_, rfl⟩
            refine lv_iinc (v := x12) (lv' := [(4, .int x12), (0, .ref o), (1, .int n0), (2, .long b0)]) hx hb d_Mo_feed_83 hl (k := 0) rfl (by rw [e_x12]; rfl) (by decide) rfl (fun ls hl => ?_)
            refine lv_goto (tgt := 46) hx hb d_Mo_feed_86 (by decide) ?_
            exact ih_46 (k + 1) x12 G9 _ _ _ hlt (nb_s e_x12 hk) (by rw [← hE_G9, hGe, gw_up_up, e_x8, nI_1]) (z_m hm_46 hlt) hI (lv_sub hl [0, 1, 2, 3] rfl)
      exact L_46 _ 0 0 G4 _ _ _ (Nat.zero_le _) rfl (by first | rfl | exact hE_G4.symm) (Nat.lt_succ_self _) hI (lv_sub hl [0, 1, 2, 3] rfl)
    · have hc9 := c_9
      refine lv_iconst (v := 1) hx hb d_Mo_feed_12 (by decide) ?_
      refine lv_goto (tgt := 17) hx hb d_Mo_feed_13 (by decide) ?_
      refine gw_put M hK hI hO i_Mo t_Mo tk_Mo n_Mo rfl 0 (by decide) f_Mo_94 rfl rfl rfl (kx (mo_ob q 1 0 l0 g0)) (fun x hx => ⟨_, hx, Nat.le_of_ble_eq_true rfl, rfl⟩) d_Mo_feed_17 (fun H locs hI => ?_)
      obtain ⟨G13, hE_G13⟩ : ∃ z9, gw_up G o (kx (mo_ob q 1 0 l0 g0)) = z9 := ⟨_, rfl⟩
      rw [hE_G13] at hI
      have hG15 : G13 o = some (kx (mo_ob q 1 0 l0 g0)) := by rw [← hE_G13]; exact gw_up_s
      have hs14 : gw_fr (fun b => b = o) G G13 := by rw [← hE_G13]; exact gw_fr.up rfl
      have hA := hA.fr hO hs14
      refine lv_aload_n hx hb d_Mo_feed_20 rfl (lv_at hl 0 rfl) ?_
      refine gw_get M hK hI hG15 i_Mo rfl 0 (by decide) f_Mo_94 rfl (Pv := fun v => v = .int 1) (fun x hx => ⟨_, _, hx, rfl, rfl⟩) d_Mo_feed_21 (fun v hv => ?_)
      subst hv
      refine lv_if_le (tgt := 29) hx hb d_Mo_feed_24 (by decide) (fun q9 => absurd q9 (by decide)) (fun c_24 => ?_)
      refine lv_iconst (v := 0) hx hb d_Mo_feed_27 (by decide) ?_
      exact gw_iret M hr hlo hI d_Mo_feed_28 (Or.inl ⟨Or.inr c_9, (by first | rfl | exact hE_G13.symm | (rw [← hE_G13]; simp only [gw_up_up]) | (simp only [← hE_G13, gw_up_up]))⟩)

abbrev rm_Mo_keep : Room := { frames := 0, cells := 0, slots := 0, locals := 0 }
set_option maxHeartbeats 4000000 in
set_option maxRecDepth 100000 in
theorem c_Mo_keep (l : Launch) {D : gw_D} {Hs : Heap} {G : gw_G} (n0 : Int32) (o : Nat) (q : Nat → Nat) (t0 f0 g0 : Int32) (hO : G o = some (kx (mo_ob q t0 f0 0 g0))) (hA : mo_ok D tZ q G) : Met l y_Mo_keep (Cond.code y_Mo_keep b_Mo_keep 3 none :: tb) rm_Mo_keep (gw_Pc D Hs G [.ref o, .int n0]) (gw_Qv D Hs (fun G1 => ((¬ n0 < 0 ∧ n0 ≤ 7) ∧ G1 o = some (kx (mo_ob q 0 f0 0 g0))) ∨ ((n0 < 0 ∨ ¬ n0 ≤ 7) ∧ G1 o = some (kx (mo_ob q 1 f0 0 g0))))) 0 0 (gw_A Hs) := by
  refine gw_met (by decide) (Nat.le_of_ble_eq_true rfl) ?_
  intro p e s m args below meth c M hK hr hlo hin hI ls hl
  have hx := M.1
  have hb := M.2.1
  have hl : lv_has ls 3 [(0, .ref o), (1, .int n0)] := hl
  refine lv_aload_n hx hb d_Mo_keep_0 rfl (lv_at hl 0 rfl) ?_
  refine lv_iload_n hx hb d_Mo_keep_1 rfl (lv_at hl 1 rfl) ?_
  refine lv_if_lt (tgt := 11) hx hb d_Mo_keep_2 (by decide) (fun c_2 => ?_) (fun c_2 => ?_)
  · refine lv_iconst (v := 1) hx hb d_Mo_keep_11 (by decide) ?_
    refine lv_goto (tgt := 16) hx hb d_Mo_keep_12 (by decide) ?_
    refine gw_put M hK hI hO i_Mo t_Mo tk_Mo n_Mo rfl 0 (by decide) f_Mo_94 rfl rfl rfl (kx (mo_ob q 1 f0 0 g0)) (fun x hx => ⟨_, hx, Nat.le_of_ble_eq_true rfl, rfl⟩) d_Mo_keep_16 (fun H locs hI => ?_)
    obtain ⟨G1, hE_G1⟩ : ∃ z9, gw_up G o (kx (mo_ob q 1 f0 0 g0)) = z9 := ⟨_, rfl⟩
    rw [hE_G1] at hI
    have hG3 : G1 o = some (kx (mo_ob q 1 f0 0 g0)) := by rw [← hE_G1]; exact gw_up_s
    have hs2 : gw_fr (fun b => b = o) G G1 := by rw [← hE_G1]; exact gw_fr.up rfl
    have hA := hA.fr hO hs2
    refine lv_aload_n hx hb d_Mo_keep_19 rfl (lv_at hl 0 rfl) ?_
    refine gw_get M hK hI hG3 i_Mo rfl 0 (by decide) f_Mo_94 rfl (Pv := fun v => v = .int 1) (fun x hx => ⟨_, _, hx, rfl, rfl⟩) d_Mo_keep_20 (fun v hv => ?_)
    subst hv
    refine lv_if_ne (tgt := 70) hx hb d_Mo_keep_23 (by decide) (fun c_23 => ?_) (fun q9 => absurd q9 (by decide))
    exact gw_vret M hr hlo hI d_Mo_keep_70 (Or.inr ⟨Or.inl c_2, hG3⟩)
  · refine lv_iload_n hx hb d_Mo_keep_5 rfl (lv_at hl 1 rfl) ?_
    refine lv_bipush (v := 7) hx hb d_Mo_keep_6 (by decide) ?_
    refine lv_icmp_le (tgt := 15) hx hb d_Mo_keep_8 (by decide) (fun c_8 => ?_) (fun c_8 => ?_)
    · refine lv_iconst (v := 0) hx hb d_Mo_keep_15 (by decide) ?_
      refine gw_put M hK hI hO i_Mo t_Mo tk_Mo n_Mo rfl 0 (by decide) f_Mo_94 rfl rfl rfl (kx (mo_ob q 0 f0 0 g0)) (fun x hx => ⟨_, hx, Nat.le_of_ble_eq_true rfl, rfl⟩) d_Mo_keep_16 (fun H locs hI => ?_)
      obtain ⟨G4, hE_G4⟩ : ∃ z9, gw_up G o (kx (mo_ob q 0 f0 0 g0)) = z9 := ⟨_, rfl⟩
      rw [hE_G4] at hI
      have hG6 : G4 o = some (kx (mo_ob q 0 f0 0 g0)) := by rw [← hE_G4]; exact gw_up_s
      have hs5 : gw_fr (fun b => b = o) G G4 := by rw [← hE_G4]; exact gw_fr.up rfl
      have hA := hA.fr hO hs5
      refine lv_aload_n hx hb d_Mo_keep_19 rfl (lv_at hl 0 rfl) ?_
      refine gw_get M hK hI hG6 i_Mo rfl 0 (by decide) f_Mo_94 rfl (Pv := fun v => v = .int 0) (fun x hx => ⟨_, _, hx, rfl, rfl⟩) d_Mo_keep_20 (fun v hv => ?_)
      subst hv
      refine lv_if_ne (tgt := 70) hx hb d_Mo_keep_23 (by decide) (fun q9 => absurd (by decide) q9) (fun c_23 => ?_)
      refine lv_aload_n hx hb d_Mo_keep_26 rfl (lv_at hl 0 rfl) ?_
      refine gw_get M hK hI hG6 i_Mo rfl 21 (by decide) f_Mo_66 rfl (Pv := fun v => v = .ref (q 21)) (fun x hx => ⟨_, _, hx, rfl, rfl⟩) d_Mo_keep_27 (fun v hv => ?_)
      subst hv
      refine lv_iload_n hx hb d_Mo_keep_30 rfl (lv_at hl 1 rfl) ?_
      refine lv_aload_n hx hb d_Mo_keep_31 rfl (lv_at hl 0 rfl) ?_
      refine gw_get M hK hI hG6 i_Mo rfl 19 (by decide) f_Mo_151 rfl (Pv := fun v => v = .int 0) (fun x hx => ⟨_, _, hx, rfl, rfl⟩) d_Mo_keep_32 (fun v hv => ?_)
      subst hv
      have hq21 := hA.2 21 rfl
      obtain ⟨-, x9, ⟨f9, hf9, rfl⟩, hat⟩ := hI.1.2.2 (q 21) _ hq21
      refine gw_iast0 M hK hI hq21 hat (by obtain ⟨k, hk, rfl⟩ := n0_of (n := 7) rfl c_2 c_8; exact vp_in_nI (by omega) (by decide)) (kA D 0 8 tT) ⟨_, fun _ _ => trivial, rfl⟩ d_Mo_keep_35 (fun H locs hI => ?_)
      have hne21 : o ≠ q 21 := ne_x hG6 hq21 (fun q => by obtain ⟨f, -, q⟩ := q; cases q)
      generalize hE_G7 : gw_up G4 (q 21) (kA D 0 8 tT) = G7 at hI
      have hG8 : G7 o = some (kx (mo_ob q 0 f0 0 g0)) := by rw [← hE_G7, gw_up_n hne21]; exact hG6
      refine lv_iconst (v := 0) hx hb d_Mo_keep_36 (by decide) ?_
      refine lv_istore_n (lv' := [(2, .int 0), (0, .ref o), (1, .int n0)]) hx hb d_Mo_keep_37 rfl hl (by decide) rfl (fun ls hl => ?_)
      refine lv_iload_n hx hb d_Mo_keep_38 rfl (lv_at hl 0 rfl) ?_
      refine lv_aload_n hx hb d_Mo_keep_39 rfl (lv_at hl 1 rfl) ?_
      refine gw_get M hK hI hG8 i_Mo rfl 19 (by decide) f_Mo_151 rfl (Pv := fun v => v = .int 0) (fun x hx => ⟨_, _, hx, rfl, rfl⟩) d_Mo_keep_40 (fun v hv => ?_)
      subst hv
      refine lv_icmp_ge (tgt := 70) hx hb d_Mo_keep_43 (by decide) (fun c_43 => ?_) (fun q9 => absurd (by decide) q9)
      exact gw_vret M hr hlo hI d_Mo_keep_70 (Or.inl ⟨⟨c_2, c_8⟩, hG8⟩)
    · have hc8 := c_8
      refine lv_iconst (v := 1) hx hb d_Mo_keep_11 (by decide) ?_
      refine lv_goto (tgt := 16) hx hb d_Mo_keep_12 (by decide) ?_
      refine gw_put M hK hI hO i_Mo t_Mo tk_Mo n_Mo rfl 0 (by decide) f_Mo_94 rfl rfl rfl (kx (mo_ob q 1 f0 0 g0)) (fun x hx => ⟨_, hx, Nat.le_of_ble_eq_true rfl, rfl⟩) d_Mo_keep_16 (fun H locs hI => ?_)
      obtain ⟨G9, hE_G9⟩ : ∃ z9, gw_up G o (kx (mo_ob q 1 f0 0 g0)) = z9 := ⟨_, rfl⟩
      rw [hE_G9] at hI
      have hG11 : G9 o = some (kx (mo_ob q 1 f0 0 g0)) := by rw [← hE_G9]; exact gw_up_s
      have hs10 : gw_fr (fun b => b = o) G G9 := by rw [← hE_G9]; exact gw_fr.up rfl
      have hA := hA.fr hO hs10
      refine lv_aload_n hx hb d_Mo_keep_19 rfl (lv_at hl 0 rfl) ?_
      refine gw_get M hK hI hG11 i_Mo rfl 0 (by decide) f_Mo_94 rfl (Pv := fun v => v = .int 1) (fun x hx => ⟨_, _, hx, rfl, rfl⟩) d_Mo_keep_20 (fun v hv => ?_)
      subst hv
      refine lv_if_ne (tgt := 70) hx hb d_Mo_keep_23 (by decide) (fun c_23 => ?_) (fun q9 => absurd q9 (by decide))
      exact gw_vret M hr hlo hI d_Mo_keep_70 (Or.inr ⟨Or.inr c_8, hG11⟩)

abbrev rm_Mo_name : Room := { frames := 0, cells := 0, slots := 0, locals := 0 }
set_option maxHeartbeats 4000000 in
set_option maxRecDepth 100000 in
theorem c_Mo_name (l : Launch) {D : gw_D} {Hs : Heap} {G : gw_G} (n0 : Int32) (o : Nat) (q : Nat → Nat) (t0 f0 l0 g0 : Int32) (hO : G o = some (kx (mo_ob q t0 f0 l0 g0))) (hA : mo_ok D tZ q G) : Met l y_Mo_name (Cond.code y_Mo_name b_Mo_name 5 (some .int) :: tb) rm_Mo_name (gw_Pc D Hs G [.ref o, .int n0]) (gw_Qi D Hs (fun r G1 => r = -1 ∧ G1 = gw_up G o (kx (mo_ob q 0 f0 l0 g0)))) 0 0 (gw_A Hs) := by
  refine gw_met (by decide) (Nat.le_of_ble_eq_true rfl) ?_
  intro p e s m args below meth c M hK hr hlo hin hI ls hl
  have hx := M.1
  have hb := M.2.1
  have hl : lv_has ls 5 [(0, .ref o), (1, .int n0)] := hl
  refine lv_aload_n hx hb d_Mo_name_0 rfl (lv_at hl 0 rfl) ?_
  refine lv_iconst (v := 0) hx hb d_Mo_name_1 (by decide) ?_
  refine gw_put M hK hI hO i_Mo t_Mo tk_Mo n_Mo rfl 0 (by decide) f_Mo_94 rfl rfl rfl (kx (mo_ob q 0 f0 l0 g0)) (fun x hx => ⟨_, hx, Nat.le_of_ble_eq_true rfl, rfl⟩) d_Mo_name_2 (fun H locs hI => ?_)
  obtain ⟨G1, hE_G1⟩ : ∃ z9, gw_up G o (kx (mo_ob q 0 f0 l0 g0)) = z9 := ⟨_, rfl⟩
  rw [hE_G1] at hI
  have hG3 : G1 o = some (kx (mo_ob q 0 f0 l0 g0)) := by rw [← hE_G1]; exact gw_up_s
  have hs2 : gw_fr (fun b => b = o) G G1 := by rw [← hE_G1]; exact gw_fr.up rfl
  have hA := hA.fr hO hs2
  refine lv_iconst (v := 0) hx hb d_Mo_name_5 (by decide) ?_
  refine lv_istore_n (lv' := [(2, .int 0), (0, .ref o), (1, .int n0)]) hx hb d_Mo_name_6 rfl hl (by decide) rfl (fun ls hl => ?_)
  have L_7 : ∀ (n9 : Nat) (k : Nat) (y2 : Int32) (H : Heap) (locs : List Loc) (ls : Array Slot), k ≤ 16 → y2 = nI k → 16 - k < n9 → gw_I D Hs G1 s.heap H locs → lv_has ls 5 [(2, .int y2), (0, .ref o), (1, .int n0)] → W p l e rm_Mo_name s m args below meth c H locs 0 0 (MQ below (gw_Qi D Hs (fun r G1 => r = -1 ∧ G1 = gw_up G o (kx (mo_ob q 0 f0 l0 g0)))) args s 0 0 (gw_A Hs)) (F0 m 7 ls []) := by
    intro n9
    induction n9 with
    | zero =>
      intro k y2 H locs ls h16 hk hm hI hl
      exact absurd hm (Nat.not_lt_zero _)
    | succ n9 ih_7 =>
      intro k y2 H locs ls h16 hk hm_7 hI hl
      refine lv_iload_n hx hb d_Mo_name_7 rfl (lv_at hl 0 rfl) ?_
      refine lv_bipush (v := 16) hx hb d_Mo_name_8 (by decide) ?_
      refine lv_icmp_ge (tgt := 101) hx hb d_Mo_name_10 (by decide) (fun c_10 => ?_) (fun c_10 => ?_)
      · refine lv_iconst (v := (-1)) hx hb d_Mo_name_101 (by decide) ?_
        exact gw_iret M hr hlo hI d_Mo_name_102 (⟨rfl, (by first | rfl | exact hE_G1.symm | (rw [← hE_G1]; simp only [gw_up_up]) | (simp only [← hE_G1, gw_up_up]))⟩)
      · have hlt : k < 16 := nb_lt (n := 16) hk c_10 (by decide) (z_31 h16)
        refine lv_iconst (v := 0) hx hb d_Mo_name_13 (by decide) ?_
        refine lv_istore_n (lv' := [(3, .int 0), (2, .int y2), (0, .ref o), (1, .int n0)]) hx hb d_Mo_name_14 rfl hl (by decide) rfl (fun ls hl => ?_)
        refine lv_iconst (v := 0) hx hb d_Mo_name_15 (by decide) ?_
        refine lv_istore (lv' := [(4, .int 0), (3, .int 0), (2, .int y2), (0, .ref o), (1, .int n0)]) hx hb d_Mo_name_16 hl (by decide) rfl (fun ls hl => ?_)
        have L_18 : ∀ (n9 : Nat) (j : Nat) (y3 : Int32) (y4 : Int32) (H : Heap) (locs : List Loc) (ls : Array Slot), j ≤ 16 → y4 = nI j → 16 - j < n9 → gw_I D Hs G1 s.heap H locs → lv_has ls 5 [(4, .int y4), (3, .int y3), (2, .int y2), (0, .ref o), (1, .int n0)] → W p l e rm_Mo_name s m args below meth c H locs 0 0 (MQ below (gw_Qi D Hs (fun r G1 => r = -1 ∧ G1 = gw_up G o (kx (mo_ob q 0 f0 l0 g0)))) args s 0 0 (gw_A Hs)) (F0 m 18 ls []) := by
          intro n9
          induction n9 with
          | zero =>
            intro j y3 y4 H locs ls hj hkj hm hI hl
            exact absurd hm (Nat.not_lt_zero _)
          | succ n9 ih_18 =>
            intro j y3 y4 H locs ls hj hkj hm_18 hI hl
            refine lv_iload hx hb d_Mo_name_18 (lv_at hl 0 rfl) ?_
            refine lv_bipush (v := 16) hx hb d_Mo_name_20 (by decide) ?_
            refine lv_icmp_ge (tgt := 74) hx hb d_Mo_name_22 (by decide) (fun c_22 => ?_) (fun c_22 => ?_)
            · refine lv_aload_n hx hb d_Mo_name_74 rfl (lv_at hl 3 rfl) ?_
              refine gw_get M hK hI hG3 i_Mo rfl 2 (by decide) f_Mo_13 rfl (Pv := fun v => v = .ref (q 2)) (fun x hx => ⟨_, _, hx, rfl, rfl⟩) d_Mo_name_75 (fun v hv => ?_)
              subst hv
              refine lv_iload_n hx hb d_Mo_name_78 rfl (lv_at hl 2 rfl) ?_
              refine gw_zald M hK hI (hA.2 2 rfl : _ = some (kA D 2 16 tZ)) (nb_in hk hlt) d_Mo_name_79 (fun x4 h_x4 => ?_)
              refine lv_if_eq (tgt := 95) hx hb d_Mo_name_80 (by decide) (fun c_80 => ?_) (fun q9 => absurd h_x4 q9)
              obtain ⟨x5, e_x5⟩ : ∃ ww9 : Int32, ww9 = y2 + 1 := ⟨_, rfl⟩
              refine lv_iinc (v := x5) (lv' := [(2, .int x5), (4, .int y4), (3, .int y3), (0, .ref o), (1, .int n0)]) hx hb d_Mo_name_95 hl (k := 2) rfl (by rw [e_x5]; rfl) (by decide) rfl (fun ls hl => ?_)
              refine lv_goto (tgt := 7) hx hb d_Mo_name_98 (by decide) ?_
              exact ih_7 (k + 1) x5 _ _ _ hlt (nb_s e_x5 hk) (z_m hm_7 hlt) hI (lv_sub hl [0, 3, 4] rfl)
            · have hltj : j < 16 := nb_lt (n := 16) hkj c_22 (by decide) (z_31 hj)
              refine lv_iload_n hx hb d_Mo_name_25 rfl (lv_at hl 1 rfl) ?_
              refine lv_aload_n hx hb d_Mo_name_26 rfl (lv_at hl 3 rfl) ?_
              refine gw_get M hK hI hG3 i_Mo rfl 2 (by decide) f_Mo_13 rfl (Pv := fun v => v = .ref (q 2)) (fun x hx => ⟨_, _, hx, rfl, rfl⟩) d_Mo_name_27 (fun v hv => ?_)
              subst hv
              refine lv_iload hx hb d_Mo_name_30 (lv_at hl 0 rfl) ?_
              refine gw_zald M hK hI (hA.2 2 rfl : _ = some (kA D 2 16 tZ)) (nb_in hkj hltj) d_Mo_name_32 (fun x6 h_x6 => ?_)
              refine lv_if_eq (tgt := 65) hx hb d_Mo_name_33 (by decide) (fun c_33 => ?_) (fun q9 => absurd h_x6 q9)
              refine lv_iconst (v := 0) hx hb d_Mo_name_65 (by decide) ?_
              refine lv_iadd hx hb d_Mo_name_66 ?_
              refine lv_topi (fun x7 e_x7 => ?_)
              refine lv_istore_n (lv' := [(3, .int x7), (4, .int y4), (2, .int y2), (0, .ref o), (1, .int n0)]) hx hb d_Mo_name_67 rfl hl (by decide) rfl (fun ls hl => ?_)
              obtain ⟨x8, e_x8⟩ : ∃ ww9 : Int32, ww9 = y4 + 1 := ⟨_, rfl⟩
              refine lv_iinc (v := x8) (lv' := [(4, .int x8), (3, .int x7), (2, .int y2), (0, .ref o), (1, .int n0)]) hx hb d_Mo_name_68 hl (k := 1) rfl (by rw [e_x8]; rfl) (by decide) rfl (fun ls hl => ?_)
              refine lv_goto (tgt := 18) hx hb d_Mo_name_71 (by decide) ?_
              exact ih_18 (j + 1) x7 x8 _ _ _ hltj (nb_s e_x8 hkj) (z_m hm_18 hltj) hI (lv_sub hl [0, 1, 2, 3, 4] rfl)
        exact L_18 _ 0 0 0 _ _ _ (Nat.zero_le _) rfl (Nat.lt_succ_self _) hI (lv_sub hl [0, 1, 2, 3, 4] rfl)
  exact L_7 _ 0 0 _ _ _ (Nat.zero_le _) rfl (Nat.lt_succ_self _) hI (lv_sub hl [0, 1, 2] rfl)

theorem l255 (x : Int64) : by8 ((x &&& 255).toInt32) := by
  show uN _ < 256
  unfold uN
  have h1 : ((x &&& 255).toInt32).toBitVec = ((x &&& 255).toBitVec).signExtend 32 := rfl
  rw [h1, BitVec.toNat_signExtend]
  have h2 : (x &&& 255).toBitVec.toNat < 256 := by
    rw [Int64.toBitVec_and, BitVec.toNat_and]
    exact Nat.lt_of_le_of_lt Nat.and_le_right (by decide)
  rw [BitVec.toNat_setWidth]
  have h3 : (x &&& 255).toBitVec.msb = false := by
    rw [BitVec.msb_eq_decide]
    simp only [decide_eq_false_iff_not]
    omega
  rw [h3]
  simp only [Bool.false_eq_true, if_false, Nat.add_zero]
  exact Nat.lt_of_le_of_lt (Nat.mod_le _ _) h2

abbrev rm_Mo_spreadKey : Room := { frames := 1, cells := 0, slots := 0, locals := 23 }
set_option maxHeartbeats 4000000 in
set_option maxRecDepth 100000 in
theorem c_Mo_spreadKey (l : Launch) {D : gw_D} {Hs : Heap} {G : gw_G} (Z : Int32 → Prop) (kh kl : Int64) (o : Nat) (q : Nat → Nat) (t0 f0 l0 g0 : Int32) (hO : G o = some (kx (mo_ob q t0 f0 l0 g0))) (hA : mo_ok D Z q G) : Met l y_Mo_spreadKey (Cond.code y_Mo_spreadKey b_Mo_spreadKey 11 none :: tb) rm_Mo_spreadKey (gw_Pc D Hs G [.ref o, .int 0, .long kh, .long kl]) (gw_Qv D Hs (fun G1 => G1 = G)) 0 0 (gw_A Hs) := by
  refine gw_met (by decide) (Nat.le_of_ble_eq_true rfl) ?_
  intro p e s m args below meth c M hK hr hlo hin hI ls hl
  have hx := M.1
  have hb := M.2.1
  have hl : lv_has ls 11 [(0, .ref o), (1, .int 0), (2, .long kh), (4, .long kl)] := hl
  refine lv_sipush (v := 176) hx hb d_Mo_spreadKey_0 (by decide) ?_
  refine lv_iload_n hx hb d_Mo_spreadKey_3 rfl (lv_at hl 1 rfl) ?_
  refine lv_imul hx hb d_Mo_spreadKey_4 ?_
  refine lv_topi (fun x1 e_x1 => ?_)
  refine lv_istore (lv' := [(6, .int x1), (0, .ref o), (1, .int 0), (2, .long kh), (4, .long kl)]) hx hb d_Mo_spreadKey_5 hl (by decide) rfl (fun ls hl => ?_)
  have hy6 : x1 = nI 0 := by rw [e_x1]; decide
  obtain ⟨y6, hy6b⟩ : ∃ z, z = x1 := ⟨_, rfl⟩
  rw [← hy6b] at hl hy6
  refine lv_iconst (v := 0) hx hb d_Mo_spreadKey_7 (by decide) ?_
  refine lv_istore (lv' := [(7, .int 0), (6, .int y6), (0, .ref o), (1, .int 0), (2, .long kh), (4, .long kl)]) hx hb d_Mo_spreadKey_8 hl (by decide) rfl (fun ls hl => ?_)
  have L_10 : ∀ (n9 : Nat) (k : Nat) (y7 : Int32) (H : Heap) (locs : List Loc) (ls : Array Slot), k ≤ 16 → y7 = nI k → 16 - k < n9 → gw_I D Hs G s.heap H locs → lv_has ls 11 [(7, .int y7), (6, .int y6), (0, .ref o), (1, .int 0), (2, .long kh), (4, .long kl)] → W p l e rm_Mo_spreadKey s m args below meth c H locs 0 0 (MQ below (gw_Qv D Hs (fun G1 => G1 = G)) args s 0 0 (gw_A Hs)) (F0 m 10 ls []) := by
    intro n9
    induction n9 with
    | zero =>
      intro k y7 H locs ls h16 hk hm hI hl
      exact absurd hm (Nat.not_lt_zero _)
    | succ n9 ih_10 =>
      intro k y7 H locs ls h16 hk hm_10 hI hl
      refine lv_iload hx hb d_Mo_spreadKey_10 (lv_at hl 0 rfl) ?_
      refine lv_bipush (v := 16) hx hb d_Mo_spreadKey_12 (by decide) ?_
      refine lv_icmp_ge (tgt := 63) hx hb d_Mo_spreadKey_14 (by decide) (fun c_14 => ?_) (fun c_14 => ?_)
      · refine lv_iconst (v := 1) hx hb d_Mo_spreadKey_63 (by decide) ?_
        refine lv_istore (lv' := [(7, .int 1), (6, .int y6), (0, .ref o), (1, .int 0), (2, .long kh), (4, .long kl)]) hx hb d_Mo_spreadKey_64 hl (by decide) rfl (fun ls hl => ?_)
        refine lv_iconst (v := 4) hx hb d_Mo_spreadKey_66 (by decide) ?_
        refine lv_istore (lv' := [(8, .int 4), (7, .int 1), (6, .int y6), (0, .ref o), (1, .int 0), (2, .long kh), (4, .long kl)]) hx hb d_Mo_spreadKey_67 hl (by decide) rfl (fun ls hl => ?_)
        have L_69 : ∀ (n9 : Nat) (i : Nat) (y7 : Int32) (y8 : Int32) (H : Heap) (locs : List Loc) (ls : Array Slot), 4 ≤ i → i ≤ 44 → y8 = nI i → by8 y7 → 44 - i < n9 → gw_I D Hs G s.heap H locs → lv_has ls 11 [(8, .int y8), (7, .int y7), (6, .int y6), (0, .ref o), (1, .int 0), (2, .long kh), (4, .long kl)] → W p l e rm_Mo_spreadKey s m args below meth c H locs 0 0 (MQ below (gw_Qv D Hs (fun G1 => G1 = G)) args s 0 0 (gw_A Hs)) (F0 m 69 ls []) := by
          intro n9
          induction n9 with
          | zero =>
            intro i y7 y8 H locs ls hi4 hi hki hp hm hI hl
            exact absurd hm (Nat.not_lt_zero _)
          | succ n9 ih_69 =>
            intro i y7 y8 H locs ls hi4 hi hki hp hm_69 hI hl
            refine lv_iload hx hb d_Mo_spreadKey_69 (lv_at hl 0 rfl) ?_
            refine lv_bipush (v := 44) hx hb d_Mo_spreadKey_71 (by decide) ?_
            refine lv_icmp_ge (tgt := 223) hx hb d_Mo_spreadKey_73 (by decide) (fun c_73 => ?_) (fun c_73 => ?_)
            · exact gw_vret M hr hlo hI d_Mo_spreadKey_223 rfl
            · have hlti : i < 44 := nb_lt (n := 44) hki c_73 (by decide) (by omega)
              refine lv_iconst (v := 0) hx hb d_Mo_spreadKey_76 (by decide) ?_
              refine lv_istore (lv' := [(9, .int 0), (8, .int y8), (7, .int y7), (6, .int y6), (0, .ref o), (1, .int 0), (2, .long kh), (4, .long kl)]) hx hb d_Mo_spreadKey_77 hl (by decide) rfl (fun ls hl => ?_)
              have L_79 : ∀ (n9 : Nat) (j : Nat) (y9 : Int32) (H : Heap) (locs : List Loc) (ls : Array Slot), j ≤ 4 → y9 = nI j → 4 - j < n9 → gw_I D Hs G s.heap H locs → lv_has ls 11 [(9, .int y9), (8, .int y8), (7, .int y7), (6, .int y6), (0, .ref o), (1, .int 0), (2, .long kh), (4, .long kl)] → W p l e rm_Mo_spreadKey s m args below meth c H locs 0 0 (MQ below (gw_Qv D Hs (fun G1 => G1 = G)) args s 0 0 (gw_A Hs)) (F0 m 79 ls []) := by
                intro n9
                induction n9 with
                | zero =>
                  intro j y9 H locs ls hj hkj hm hI hl
                  exact absurd hm (Nat.not_lt_zero _)
                | succ n9 ih_79 =>
                  intro j y9 H locs ls hj hkj hm_79 hI hl
                  refine lv_iload hx hb d_Mo_spreadKey_79 (lv_at hl 0 rfl) ?_
                  refine lv_iconst (v := 4) hx hb d_Mo_spreadKey_81 (by decide) ?_
                  refine lv_icmp_ge (tgt := 197) hx hb d_Mo_spreadKey_82 (by decide) (fun c_82 => ?_) (fun c_82 => ?_)
                  · refine lv_iload hx hb d_Mo_spreadKey_197 (lv_at hl 1 rfl) ?_
                    refine lv_iconst (v := 4) hx hb d_Mo_spreadKey_199 (by decide) ?_
                    refine lv_irem hx hb d_Mo_spreadKey_200 (by decide) ?_
                    refine lv_if_ne (tgt := 213) hx hb d_Mo_spreadKey_201 (by decide) (fun c_201 => ?_) (fun c_201 => ?_)
                    · have hp2 := hp
                      refine lv_iload hx hb d_Mo_spreadKey_213 (lv_at hl 2 rfl) ?_
                      refine lv_istore (lv' := [(7, .int y7), (9, .int y9), (8, .int y8), (6, .int y6), (0, .ref o), (1, .int 0), (2, .long kh), (4, .long kl)]) hx hb d_Mo_spreadKey_215 hl (by decide) rfl (fun ls hl => ?_)
                      obtain ⟨x2, e_x2⟩ : ∃ ww9 : Int32, ww9 = y8 + 1 := ⟨_, rfl⟩
                      refine lv_iinc (v := x2) (lv' := [(8, .int x2), (7, .int y7), (9, .int y9), (6, .int y6), (0, .ref o), (1, .int 0), (2, .long kh), (4, .long kl)]) hx hb d_Mo_spreadKey_217 hl (k := 2) rfl (by rw [e_x2]; rfl) (by decide) rfl (fun ls hl => ?_)
                      refine lv_goto (tgt := 69) hx hb d_Mo_spreadKey_220 (by decide) ?_
                      exact ih_69 (i + 1) y7 x2 _ _ _ (by omega) (by omega) (nb_s e_x2 hki) hp2 (z_m hm_69 hlti) hI (lv_sub hl [0, 1, 3, 4, 5, 6, 7] rfl)
                    · refine lv_iload hx hb d_Mo_spreadKey_204 (lv_at hl 2 rfl) ?_
                      refine lv_iconst (v := 2) hx hb d_Mo_spreadKey_206 (by decide) ?_
                      refine gw_Si (As := [.int y7, .int 2]) (rest := []) M hK hI (c_Mo_times l y7 2) k_Mo_times m_Mo_90 rfl hl.1 rfl (Nat.le_of_ble_eq_true rfl) ⟨rfl, rfl, ⟨Nat.le_of_ble_eq_true rfl, Nat.le_of_ble_eq_true rfl⟩, ⟨Nat.le_of_ble_eq_true rfl, Nat.le_of_ble_eq_true rfl⟩⟩ d_Mo_spreadKey_207 (fun x3 G9 H locs hw hI => ?_)
                      obtain ⟨h_x3, hw⟩ := hw
                      rw [hw] at hI
                      have hp2 := h_x3 hp
                      refine lv_goto (tgt := 215) hx hb d_Mo_spreadKey_210 (by decide) ?_
                      refine lv_istore (lv' := [(7, .int x3), (9, .int y9), (8, .int y8), (6, .int y6), (0, .ref o), (1, .int 0), (2, .long kh), (4, .long kl)]) hx hb d_Mo_spreadKey_215 hl (by decide) rfl (fun ls hl => ?_)
                      obtain ⟨x4, e_x4⟩ : ∃ ww9 : Int32, ww9 = y8 + 1 := ⟨_, rfl⟩
                      refine lv_iinc (v := x4) (lv' := [(8, .int x4), (7, .int x3), (9, .int y9), (6, .int y6), (0, .ref o), (1, .int 0), (2, .long kh), (4, .long kl)]) hx hb d_Mo_spreadKey_217 hl (k := 2) rfl (by rw [e_x4]; rfl) (by decide) rfl (fun ls hl => ?_)
                      refine lv_goto (tgt := 69) hx hb d_Mo_spreadKey_220 (by decide) ?_
                      exact ih_69 (i + 1) x3 x4 _ _ _ (by omega) (by omega) (nb_s e_x4 hki) hp2 (z_m hm_69 hlti) hI (lv_sub hl [0, 1, 3, 4, 5, 6, 7] rfl)
                  · have hltj : j < 4 := nb_lt (n := 4) hkj c_82 (by decide) (by omega)
                    refine lv_aload_n hx hb d_Mo_spreadKey_85 rfl (lv_at hl 4 rfl) ?_
                    refine gw_get M hK hI hO i_Mo rfl 4 (by decide) f_Mo_20 rfl (Pv := fun v => v = .ref (q 4)) (fun x hx => ⟨_, _, hx, rfl, rfl⟩) d_Mo_spreadKey_86 (fun v hv => ?_)
                    subst hv
                    refine lv_iload hx hb d_Mo_spreadKey_89 (lv_at hl 3 rfl) ?_
                    refine lv_iconst (v := 4) hx hb d_Mo_spreadKey_91 (by decide) ?_
                    refine lv_iload hx hb d_Mo_spreadKey_92 (lv_at hl 1 rfl) ?_
                    refine lv_iconst (v := 1) hx hb d_Mo_spreadKey_94 (by decide) ?_
                    refine lv_isub hx hb d_Mo_spreadKey_95 ?_
                    refine lv_imul hx hb d_Mo_spreadKey_96 ?_
                    refine lv_iadd hx hb d_Mo_spreadKey_97 ?_
                    refine lv_iload hx hb d_Mo_spreadKey_98 (lv_at hl 0 rfl) ?_
                    refine lv_iadd hx hb d_Mo_spreadKey_100 ?_
                    refine gw_iald M hK hI (hA.2 4 rfl : _ = some (kA D 0 2816 by8)) (nb_in (nb_aa (nb_aa hy6 (nb_mul (nb_sub hki 1) 4)) hkj) (by omega) (by decide)) d_Mo_spreadKey_101 (fun x5 h_x5 => ?_)
                    refine lv_istore (lv' := [(10, .int x5), (9, .int y9), (8, .int y8), (7, .int y7), (6, .int y6), (0, .ref o), (1, .int 0), (2, .long kh), (4, .long kl)]) hx hb d_Mo_spreadKey_102 hl (by decide) rfl (fun ls hl => ?_)
                    have J_156 : ∀ (j10 : Int32) (H : Heap) (locs : List Loc) (ls : Array Slot), by8 j10 → gw_I D Hs G s.heap H locs → lv_has ls 11 [(10, .int j10), (9, .int y9), (8, .int y8), (7, .int y7), (6, .int y6), (0, .ref o), (1, .int 0), (2, .long kh), (4, .long kl)] → W p l e rm_Mo_spreadKey s m args below meth c H locs 0 0 (MQ below (gw_Qv D Hs (fun G1 => G1 = G)) args s 0 0 (gw_A Hs)) (F0 m 156 ls []) := by
                      intro j10 H locs ls hb10 hI hl
                      refine lv_aload_n hx hb d_Mo_spreadKey_156 rfl (lv_at hl 5 rfl) ?_
                      refine gw_get M hK hI hO i_Mo rfl 4 (by decide) f_Mo_20 rfl (Pv := fun v => v = .ref (q 4)) (fun x hx => ⟨_, _, hx, rfl, rfl⟩) d_Mo_spreadKey_157 (fun v hv => ?_)
                      subst hv
                      refine lv_iload hx hb d_Mo_spreadKey_160 (lv_at hl 4 rfl) ?_
                      refine lv_iconst (v := 4) hx hb d_Mo_spreadKey_162 (by decide) ?_
                      refine lv_iload hx hb d_Mo_spreadKey_163 (lv_at hl 2 rfl) ?_
                      refine lv_imul hx hb d_Mo_spreadKey_165 ?_
                      refine lv_iadd hx hb d_Mo_spreadKey_166 ?_
                      refine lv_iload hx hb d_Mo_spreadKey_167 (lv_at hl 1 rfl) ?_
                      refine lv_iadd hx hb d_Mo_spreadKey_169 ?_
                      refine lv_aload_n hx hb d_Mo_spreadKey_170 rfl (lv_at hl 5 rfl) ?_
                      refine gw_get M hK hI hO i_Mo rfl 4 (by decide) f_Mo_20 rfl (Pv := fun v => v = .ref (q 4)) (fun x hx => ⟨_, _, hx, rfl, rfl⟩) d_Mo_spreadKey_171 (fun v hv => ?_)
                      subst hv
                      refine lv_iload hx hb d_Mo_spreadKey_174 (lv_at hl 4 rfl) ?_
                      refine lv_iconst (v := 4) hx hb d_Mo_spreadKey_176 (by decide) ?_
                      refine lv_iload hx hb d_Mo_spreadKey_177 (lv_at hl 2 rfl) ?_
                      refine lv_iconst (v := 4) hx hb d_Mo_spreadKey_179 (by decide) ?_
                      refine lv_isub hx hb d_Mo_spreadKey_180 ?_
                      refine lv_imul hx hb d_Mo_spreadKey_181 ?_
                      refine lv_iadd hx hb d_Mo_spreadKey_182 ?_
                      refine lv_iload hx hb d_Mo_spreadKey_183 (lv_at hl 1 rfl) ?_
                      refine lv_iadd hx hb d_Mo_spreadKey_185 ?_
                      refine gw_iald M hK hI (hA.2 4 rfl : _ = some (kA D 0 2816 by8)) (nb_in (nb_aa (nb_aa hy6 (nb_mul (nb_sub hki 4) 4)) hkj) (by omega) (by decide)) d_Mo_spreadKey_186 (fun x6 h_x6 => ?_)
                      refine lv_iload hx hb d_Mo_spreadKey_187 (lv_at hl 0 rfl) ?_
                      refine lv_ixor hx hb d_Mo_spreadKey_189 ?_
                      refine lv_topi (fun x7 e_x7 => ?_)
                      refine gw_iast M hK hI (hA.2 4 rfl : _ = some (kA D 0 2816 by8)) (nb_in (nb_aa (nb_aa hy6 (nb_mul hki 4)) hkj) (by omega) (by decide)) (by rw [e_x7]; exact by8_xor h_x6 hb10) d_Mo_spreadKey_190 (fun H locs hI => ?_)
                      obtain ⟨x8, e_x8⟩ : ∃ ww9 : Int32, ww9 = y9 + 1 := ⟨_, rfl⟩
                      refine lv_iinc (v := x8) (lv' := [(9, .int x8), (10, .int j10), (8, .int y8), (7, .int y7), (6, .int y6), (0, .ref o), (1, .int 0), (2, .long kh), (4, .long kl)]) hx hb d_Mo_spreadKey_191 hl (k := 1) rfl (by rw [e_x8]; rfl) (by decide) rfl (fun ls hl => ?_)
                      refine lv_goto (tgt := 79) hx hb d_Mo_spreadKey_194 (by decide) ?_
                      exact ih_79 (j + 1) x8 _ _ _ hltj (nb_s e_x8 hkj) (z_m hm_79 hltj) hI (lv_sub hl [0, 2, 3, 4, 5, 6, 7, 8] rfl)
                    refine lv_iload hx hb d_Mo_spreadKey_104 (lv_at hl 2 rfl) ?_
                    refine lv_iconst (v := 4) hx hb d_Mo_spreadKey_106 (by decide) ?_
                    refine lv_irem hx hb d_Mo_spreadKey_107 (by decide) ?_
                    refine lv_if_ne (tgt := 156) hx hb d_Mo_spreadKey_108 (by decide) (fun c_108 => ?_) (fun c_108 => ?_)
                    · exact J_156 x5 _ _ _ h_x5 hI (lv_sub hl [0, 1, 2, 3, 4, 5, 6, 7, 8] rfl)
                    · refine lv_aload_n hx hb d_Mo_spreadKey_111 rfl (lv_at hl 5 rfl) ?_
                      refine gw_get M hK hI hO i_Mo rfl 1 (by decide) f_Mo_7 rfl (Pv := fun v => v = .ref (q 1)) (fun x hx => ⟨_, _, hx, rfl, rfl⟩) d_Mo_spreadKey_112 (fun v hv => ?_)
                      subst hv
                      refine lv_aload_n hx hb d_Mo_spreadKey_115 rfl (lv_at hl 5 rfl) ?_
                      refine gw_get M hK hI hO i_Mo rfl 4 (by decide) f_Mo_20 rfl (Pv := fun v => v = .ref (q 4)) (fun x hx => ⟨_, _, hx, rfl, rfl⟩) d_Mo_spreadKey_116 (fun v hv => ?_)
                      subst hv
                      refine lv_iload hx hb d_Mo_spreadKey_119 (lv_at hl 4 rfl) ?_
                      refine lv_iconst (v := 4) hx hb d_Mo_spreadKey_121 (by decide) ?_
                      refine lv_iload hx hb d_Mo_spreadKey_122 (lv_at hl 2 rfl) ?_
                      refine lv_iconst (v := 1) hx hb d_Mo_spreadKey_124 (by decide) ?_
                      refine lv_isub hx hb d_Mo_spreadKey_125 ?_
                      refine lv_imul hx hb d_Mo_spreadKey_126 ?_
                      refine lv_iadd hx hb d_Mo_spreadKey_127 ?_
                      refine lv_iload hx hb d_Mo_spreadKey_128 (lv_at hl 1 rfl) ?_
                      refine lv_iconst (v := 1) hx hb d_Mo_spreadKey_130 (by decide) ?_
                      refine lv_iadd hx hb d_Mo_spreadKey_131 ?_
                      refine lv_iconst (v := 4) hx hb d_Mo_spreadKey_132 (by decide) ?_
                      refine lv_irem hx hb d_Mo_spreadKey_133 (by decide) ?_
                      refine lv_iadd hx hb d_Mo_spreadKey_134 ?_
                      refine gw_iald M hK hI (hA.2 4 rfl : _ = some (kA D 0 2816 by8)) (nb_in (nb_aa (nb_aa hy6 (nb_mul (nb_sub hki 1) 4)) (nb_rem (nb_add hkj 1) 4)) (by omega) (by decide)) d_Mo_spreadKey_135 (fun x9 h_x9 => ?_)
                      refine gw_iald M hK hI (hA.2 1 rfl : _ = some (kA D 0 256 by8)) (by8_in h_x9) d_Mo_spreadKey_136 (fun x10 h_x10 => ?_)
                      refine lv_istore (lv' := [(10, .int x10), (9, .int y9), (8, .int y8), (7, .int y7), (6, .int y6), (0, .ref o), (1, .int 0), (2, .long kh), (4, .long kl)]) hx hb d_Mo_spreadKey_137 hl (by decide) rfl (fun ls hl => ?_)
                      refine lv_iload hx hb d_Mo_spreadKey_139 (lv_at hl 1 rfl) ?_
                      refine lv_if_ne (tgt := 152) hx hb d_Mo_spreadKey_141 (by decide) (fun c_141 => ?_) (fun c_141 => ?_)
                      · refine lv_iload hx hb d_Mo_spreadKey_152 (lv_at hl 0 rfl) ?_
                        refine lv_istore (lv' := [(10, .int x10), (9, .int y9), (8, .int y8), (7, .int y7), (6, .int y6), (0, .ref o), (1, .int 0), (2, .long kh), (4, .long kl)]) hx hb d_Mo_spreadKey_154 hl (by decide) rfl (fun ls hl => ?_)
                        exact J_156 x10 _ _ _ h_x10 hI (lv_sub hl [0, 1, 2, 3, 4, 5, 6, 7, 8] rfl)
                      · refine lv_iload hx hb d_Mo_spreadKey_144 (lv_at hl 0 rfl) ?_
                        refine lv_iload hx hb d_Mo_spreadKey_146 (lv_at hl 3 rfl) ?_
                        refine lv_ixor hx hb d_Mo_spreadKey_148 ?_
                        refine lv_goto (tgt := 154) hx hb d_Mo_spreadKey_149 (by decide) ?_
                        refine lv_topi (fun x11 e_x11 => ?_)
                        refine lv_istore (lv' := [(10, .int x11), (9, .int y9), (8, .int y8), (7, .int y7), (6, .int y6), (0, .ref o), (1, .int 0), (2, .long kh), (4, .long kl)]) hx hb d_Mo_spreadKey_154 hl (by decide) rfl (fun ls hl => ?_)
                        exact J_156 x11 _ _ _ (by rw [e_x11]; exact by8_xor h_x10 hp) hI (lv_sub hl [0, 1, 2, 3, 4, 5, 6, 7, 8] rfl)
              exact L_79 _ 0 0 _ _ _ (Nat.zero_le _) rfl (Nat.lt_succ_self _) hI (lv_sub hl [0, 1, 2, 3, 4, 5, 6, 7] rfl)
        exact L_69 _ 4 1 4 _ _ _ (by decide) (by decide) rfl (show uN 1 < 256 by decide) (Nat.lt_succ_self _) hI (lv_sub hl [0, 1, 2, 3, 4, 5, 6] rfl)
      · have hlt : k < 16 := nb_lt (n := 16) hk c_14 (by decide) (z_31 h16)
        refine lv_aload_n hx hb d_Mo_spreadKey_17 rfl (lv_at hl 2 rfl) ?_
        refine gw_get M hK hI hO i_Mo rfl 4 (by decide) f_Mo_20 rfl (Pv := fun v => v = .ref (q 4)) (fun x hx => ⟨_, _, hx, rfl, rfl⟩) d_Mo_spreadKey_18 (fun v hv => ?_)
        subst hv
        refine lv_iload hx hb d_Mo_spreadKey_21 (lv_at hl 1 rfl) ?_
        refine lv_iload hx hb d_Mo_spreadKey_23 (lv_at hl 0 rfl) ?_
        refine lv_iadd hx hb d_Mo_spreadKey_25 ?_
        refine lv_iload hx hb d_Mo_spreadKey_26 (lv_at hl 0 rfl) ?_
        refine lv_bipush (v := 8) hx hb d_Mo_spreadKey_28 (by decide) ?_
        refine lv_icmp_ge (tgt := 37) hx hb d_Mo_spreadKey_30 (by decide) (fun c_30 => ?_) (fun c_30 => ?_)
        · refine lv_lload hx hb d_Mo_spreadKey_37 (lv_at hl 5 rfl) ?_
          refine lv_bipush (v := 56) hx hb d_Mo_spreadKey_39 (by decide) ?_
          refine lv_bipush (v := 8) hx hb d_Mo_spreadKey_41 (by decide) ?_
          refine lv_iload hx hb d_Mo_spreadKey_43 (lv_at hl 0 rfl) ?_
          refine lv_bipush (v := 8) hx hb d_Mo_spreadKey_45 (by decide) ?_
          refine lv_irem hx hb d_Mo_spreadKey_47 (by decide) ?_
          refine lv_imul hx hb d_Mo_spreadKey_48 ?_
          refine lv_isub hx hb d_Mo_spreadKey_49 ?_
          refine lv_lshr hx hb d_Mo_spreadKey_50 rfl ?_
          refine lv_ldc2 (v := 255) hx hb M.2.2.2.1 (M.2.2.2.2 _ o_Mo_98) d_Mo_spreadKey_51 ?_
          refine lv_land hx hb d_Mo_spreadKey_54 ?_
          refine lv_l2i hx hb d_Mo_spreadKey_55 rfl ?_
          refine lv_topi (fun x12 e_x12 => ?_)
          refine gw_iast M hK hI (hA.2 4 rfl : _ = some (kA D 0 2816 by8)) (nb_in (nb_aa hy6 hk) (by omega) (by decide)) (by rw [e_x12]; exact l255 _) d_Mo_spreadKey_56 (fun H locs hI => ?_)
          obtain ⟨x13, e_x13⟩ : ∃ ww9 : Int32, ww9 = y7 + 1 := ⟨_, rfl⟩
          refine lv_iinc (v := x13) (lv' := [(7, .int x13), (6, .int y6), (0, .ref o), (1, .int 0), (2, .long kh), (4, .long kl)]) hx hb d_Mo_spreadKey_57 hl (k := 0) rfl (by rw [e_x13]; rfl) (by decide) rfl (fun ls hl => ?_)
          refine lv_goto (tgt := 10) hx hb d_Mo_spreadKey_60 (by decide) ?_
          exact ih_10 (k + 1) x13 _ _ _ hlt (nb_s e_x13 hk) (z_m hm_10 hlt) hI (lv_sub hl [0, 1, 2, 3, 4, 5] rfl)
        · refine lv_lload_n hx hb d_Mo_spreadKey_33 rfl (lv_at hl 4 rfl) ?_
          refine lv_goto (tgt := 39) hx hb d_Mo_spreadKey_34 (by decide) ?_
          refine lv_bipush (v := 56) hx hb d_Mo_spreadKey_39 (by decide) ?_
          refine lv_bipush (v := 8) hx hb d_Mo_spreadKey_41 (by decide) ?_
          refine lv_iload hx hb d_Mo_spreadKey_43 (lv_at hl 0 rfl) ?_
          refine lv_bipush (v := 8) hx hb d_Mo_spreadKey_45 (by decide) ?_
          refine lv_irem hx hb d_Mo_spreadKey_47 (by decide) ?_
          refine lv_imul hx hb d_Mo_spreadKey_48 ?_
          refine lv_isub hx hb d_Mo_spreadKey_49 ?_
          refine lv_lshr hx hb d_Mo_spreadKey_50 rfl ?_
          refine lv_ldc2 (v := 255) hx hb M.2.2.2.1 (M.2.2.2.2 _ o_Mo_98) d_Mo_spreadKey_51 ?_
          refine lv_land hx hb d_Mo_spreadKey_54 ?_
          refine lv_l2i hx hb d_Mo_spreadKey_55 rfl ?_
          refine lv_topi (fun x14 e_x14 => ?_)
          refine gw_iast M hK hI (hA.2 4 rfl : _ = some (kA D 0 2816 by8)) (nb_in (nb_aa hy6 hk) (by omega) (by decide)) (by rw [e_x14]; exact l255 _) d_Mo_spreadKey_56 (fun H locs hI => ?_)
          obtain ⟨x15, e_x15⟩ : ∃ ww9 : Int32, ww9 = y7 + 1 := ⟨_, rfl⟩
          refine lv_iinc (v := x15) (lv' := [(7, .int x15), (6, .int y6), (0, .ref o), (1, .int 0), (2, .long kh), (4, .long kl)]) hx hb d_Mo_spreadKey_57 hl (k := 0) rfl (by rw [e_x15]; rfl) (by decide) rfl (fun ls hl => ?_)
          refine lv_goto (tgt := 10) hx hb d_Mo_spreadKey_60 (by decide) ?_
          exact ih_10 (k + 1) x15 _ _ _ hlt (nb_s e_x15 hk) (z_m hm_10 hlt) hI (lv_sub hl [0, 1, 2, 3, 4, 5] rfl)
  exact L_10 _ 0 0 _ _ _ (Nat.zero_le _) rfl (Nat.lt_succ_self _) hI (lv_sub hl [0, 1, 2, 3, 4, 5] rfl)
