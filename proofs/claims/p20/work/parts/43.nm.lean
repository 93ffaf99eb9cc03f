/-- how many names in use are below x -/
def rk (fu fn : Nat → Int32) (x : Int32) : Nat → Nat
  | 0 => 0
  | k + 1 => rk fu fn x k + (if ¬ fu k = 0 ∧ fn k < x then 1 else 0)
theorem rk_0 {fu fn : Nat → Int32} {x : Int32} {j : Nat} (h : ¬ (¬ fu j = 0 ∧ fn j < x)) : rk fu fn x (j + 1) = rk fu fn x j := by
  show rk fu fn x j + (if ¬ fu j = 0 ∧ fn j < x then 1 else 0) = rk fu fn x j
  rw [if_neg h]; rfl
theorem rk_1 {fu fn : Nat → Int32} {x : Int32} {j : Nat} (h : ¬ fu j = 0 ∧ fn j < x) : rk fu fn x (j + 1) = rk fu fn x j + 1 := by
  show rk fu fn x j + (if ¬ fu j = 0 ∧ fn j < x then 1 else 0) = rk fu fn x j + 1
  rw [if_pos h]

abbrev rm_Mo_namee : Room := { frames := 0, cells := 0, slots := 0, locals := 0 }
set_option maxHeartbeats 4000000 in
set_option maxRecDepth 100000 in
theorem c_Mo_namee (l : Launch) {D : gw_D} {Hs : Heap} {G : gw_G} (o : Nat) (q : Nat → Nat) (B : Nat) (t0 : Int32) (f0 l0 g0 : Nat) (fu fn fx fi : Nat → Int32) (fl : Nat → Int64) (hM : mdl D G o q B t0 f0 l0 g0 fu fn fx fi fl) (a1 : Int32) : Met l y_Mo_name (Cond.code y_Mo_name b_Mo_name 5 (some .int) :: tb) rm_Mo_namee (gw_Pc D Hs G [.ref o, .int a1]) (gw_Qi D Hs (fun r G1 => ((r = -1 ∧ ∀ s, s < 16 → ¬ fu s = 0 → ¬ nI (rk fu fn (fn s) 16) = a1) ∨ (∃ s, s < 16 ∧ ¬ fu s = 0 ∧ nI (rk fu fn (fn s) 16) = a1 ∧ r = fn s)) ∧ mdl D G1 o q B 0 f0 l0 g0 fu fn fx fi fl ∧ gw_fr (mown o q) G G1)) 0 0 (gw_A Hs) := by
  refine gw_met (by decide) (Nat.le_of_ble_eq_true rfl) ?_
  intro p e s m args below meth c M hK hr hlo hin hI ls hl
  have hx := M.1
  have hb := M.2.1
  have hl : lv_has ls 5 [(0, .ref o), (1, .int a1)] := hl
  have hf : gw_fr (mown o q) G G := gw_fr.rf
  refine lv_aload_n hx hb d_Mo_name_0 rfl (lv_at hl 0 rfl) ?_
  refine lv_iconst (v := 0) hx hb d_Mo_name_1 (by decide) ?_
  refine gw_put M hK hI hM.O i_Mo t_Mo tk_Mo n_Mo rfl 0 (by decide) f_Mo_94 rfl rfl rfl (kx (mo_ob q 0 (nI f0) (nI l0) (nI g0))) (fun x hx => ⟨_, hx, Nat.le_of_ble_eq_true rfl, rfl⟩) d_Mo_name_2 (fun H locs hI => ?_)
  obtain ⟨G1, hE_G1⟩ : ∃ z9, gw_up G o (kx (mo_ob q 0 (nI f0) (nI l0) (nI g0))) = z9 := ⟨_, rfl⟩
  rw [hE_G1] at hI
  have hf : gw_fr (mown o q) G G1 := hf.tr (by rw [← hE_G1]; exact gw_fr.up (Or.inl rfl))
  have hM : mdl D G1 o q B 0 f0 l0 g0 fu fn fx fi fl := by rw [← hE_G1]; exact hM.ob hM.f200 hM.l236 hM.g204
  refine lv_iconst (v := 0) hx hb d_Mo_name_5 (by decide) ?_
  refine lv_istore_n (lv' := [(2, .int 0), (0, .ref o), (1, .int a1)]) hx hb d_Mo_name_6 rfl hl (by decide) rfl (fun ls hl => ?_)
  have L_7 : ∀ (n9 : Nat) (k : Nat) (y2 : Int32) (H : Heap) (locs : List Loc) (ls : Array Slot), k ≤ 16 → y2 = nI k → (∀ s, s < k → ¬ fu s = 0 → ¬ nI (rk fu fn (fn s) 16) = a1) → 16 - k < n9 → gw_I D Hs G1 s.heap H locs → lv_has ls 5 [(2, .int y2), (0, .ref o), (1, .int a1)] → W p l e rm_Mo_namee s m args below meth c H locs 0 0 (MQ below (gw_Qi D Hs (fun r G1 => ((r = -1 ∧ ∀ s, s < 16 → ¬ fu s = 0 → ¬ nI (rk fu fn (fn s) 16) = a1) ∨ (∃ s, s < 16 ∧ ¬ fu s = 0 ∧ nI (rk fu fn (fn s) 16) = a1 ∧ r = fn s)) ∧ mdl D G1 o q B 0 f0 l0 g0 fu fn fx fi fl ∧ gw_fr (mown o q) G G1)) args s 0 0 (gw_A Hs)) (F0 m 7 ls []) := by
    intro n9
    induction n9 with
    | zero =>
      intro k y2 H locs ls bk hk hno hm hI hl
      exact absurd hm (Nat.not_lt_zero _)
    | succ n9 ih_7 =>
      intro k y2 H locs ls bk hk hno hm_7 hI hl
      refine lv_iload_n hx hb d_Mo_name_7 rfl (lv_at hl 0 rfl) ?_
      refine lv_bipush (v := 16) hx hb d_Mo_name_8 (by decide) ?_
      refine lv_icmp_ge (tgt := 101) hx hb d_Mo_name_10 (by decide) (fun c_10 => ?_) (fun c_10 => ?_)
      · have hk16 : k = 16 := Nat.le_antisymm bk (nb_ge (n := 16) hk c_10 (by decide) (z_31 bk))
        refine lv_iconst (v := (-1)) hx hb d_Mo_name_101 (by decide) ?_
        exact gw_iret M hr hlo hI d_Mo_name_102 (⟨Or.inl ⟨rfl, by rw [hk16] at hno; exact hno⟩, hM, hf⟩)
      · have lk : k < 16 := nb_lt (n := 16) hk c_10 (by decide) (z_31 bk)
        refine lv_iconst (v := 0) hx hb d_Mo_name_13 (by decide) ?_
        refine lv_istore_n (lv' := [(3, .int 0), (2, .int y2), (0, .ref o), (1, .int a1)]) hx hb d_Mo_name_14 rfl hl (by decide) rfl (fun ls hl => ?_)
        refine lv_iconst (v := 0) hx hb d_Mo_name_15 (by decide) ?_
        refine lv_istore (lv' := [(4, .int 0), (3, .int 0), (2, .int y2), (0, .ref o), (1, .int a1)]) hx hb d_Mo_name_16 hl (by decide) rfl (fun ls hl => ?_)
        have L_18 : ∀ (n9 : Nat) (j : Nat) (y3 : Int32) (y4 : Int32) (H : Heap) (locs : List Loc) (ls : Array Slot), j ≤ 16 → y4 = nI j → (¬ fu k = 0 → y3 = nI (rk fu fn (fn k) j)) → 16 - j < n9 → gw_I D Hs G1 s.heap H locs → lv_has ls 5 [(4, .int y4), (3, .int y3), (2, .int y2), (0, .ref o), (1, .int a1)] → W p l e rm_Mo_namee s m args below meth c H locs 0 0 (MQ below (gw_Qi D Hs (fun r G1 => ((r = -1 ∧ ∀ s, s < 16 → ¬ fu s = 0 → ¬ nI (rk fu fn (fn s) 16) = a1) ∨ (∃ s, s < 16 ∧ ¬ fu s = 0 ∧ nI (rk fu fn (fn s) 16) = a1 ∧ r = fn s)) ∧ mdl D G1 o q B 0 f0 l0 g0 fu fn fx fi fl ∧ gw_fr (mown o q) G G1)) args s 0 0 (gw_A Hs)) (F0 m 18 ls []) := by
          intro n9
          induction n9 with
          | zero =>
            intro j y3 y4 H locs ls bj hj h3 hm hI hl
            exact absurd hm (Nat.not_lt_zero _)
          | succ n9 ih_18 =>
            intro j y3 y4 H locs ls bj hj h3 hm_18 hI hl
            refine lv_iload hx hb d_Mo_name_18 (lv_at hl 0 rfl) ?_
            refine lv_bipush (v := 16) hx hb d_Mo_name_20 (by decide) ?_
            refine lv_icmp_ge (tgt := 74) hx hb d_Mo_name_22 (by decide) (fun c_22 => ?_) (fun c_22 => ?_)
            · have hj16 : j = 16 := Nat.le_antisymm bj (nb_ge (n := 16) hj c_22 (by decide) (z_31 bj))
              rw [hj16] at h3
              refine lv_aload_n hx hb d_Mo_name_74 rfl (lv_at hl 3 rfl) ?_
              refine gw_get M hK hI hM.O i_Mo rfl 2 (by decide) f_Mo_13 rfl (Pv := fun v => v = .ref (q 2)) (fun x hx => ⟨_, _, hx, rfl, rfl⟩) d_Mo_name_75 (fun v hv => ?_)
              subst hv
              refine lv_iload_n hx hb d_Mo_name_78 rfl (lv_at hl 2 rfl) ?_
              refine gw_zaldx M hK hI hM.k2 (nb_in hk lk) d_Mo_name_79 ?_
              rw [show (y2).toNatClampNeg = k from (nb_cl hk)]
              refine lv_if_eq (tgt := 95) hx hb d_Mo_name_80 (by decide) (fun c_80 => ?_) (fun c_80 => ?_)
              · have hno2 : ∀ s, s < k + 1 → ¬ fu s = 0 → ¬ nI (rk fu fn (fn s) 16) = a1 := by
                  intro s hs hu
                  rcases Nat.lt_or_ge s k with q9 | q9
                  · exact hno s q9 hu
                  · rw [show s = k from by omega] at hu ⊢
                    exact absurd c_80 hu
                obtain ⟨x2, e_x2⟩ : ∃ ww9 : Int32, ww9 = y2 + 1 := ⟨_, rfl⟩
                refine lv_iinc (v := x2) (lv' := [(2, .int x2), (4, .int y4), (3, .int y3), (0, .ref o), (1, .int a1)]) hx hb d_Mo_name_95 hl (k := 2) rfl (by rw [e_x2]; rfl) (by decide) rfl (fun ls hl => ?_)
                refine lv_goto (tgt := 7) hx hb d_Mo_name_98 (by decide) ?_
                exact ih_7 (k + 1) x2 _ _ _ lk (nb_s e_x2 hk) hno2 (z_m hm_7 lk) hI (lv_sub hl [0, 3, 4] rfl)
              · refine lv_iload_n hx hb d_Mo_name_83 rfl (lv_at hl 1 rfl) ?_
                refine lv_iload_n hx hb d_Mo_name_84 rfl (lv_at hl 4 rfl) ?_
                refine lv_icmp_ne (tgt := 95) hx hb d_Mo_name_85 (by decide) (fun c_85 => ?_) (fun c_85 => ?_)
                · have hno2 : ∀ s, s < k + 1 → ¬ fu s = 0 → ¬ nI (rk fu fn (fn s) 16) = a1 := by
                    intro s hs hu
                    rcases Nat.lt_or_ge s k with q9 | q9
                    · exact hno s q9 hu
                    · rw [show s = k from by omega] at hu ⊢
                      exact fun q9 => c_85 ((h3 hu).trans q9)
                  obtain ⟨x3, e_x3⟩ : ∃ ww9 : Int32, ww9 = y2 + 1 := ⟨_, rfl⟩
                  refine lv_iinc (v := x3) (lv' := [(2, .int x3), (4, .int y4), (3, .int y3), (0, .ref o), (1, .int a1)]) hx hb d_Mo_name_95 hl (k := 2) rfl (by rw [e_x3]; rfl) (by decide) rfl (fun ls hl => ?_)
                  refine lv_goto (tgt := 7) hx hb d_Mo_name_98 (by decide) ?_
                  exact ih_7 (k + 1) x3 _ _ _ lk (nb_s e_x3 hk) hno2 (z_m hm_7 lk) hI (lv_sub hl [0, 3, 4] rfl)
                · refine lv_aload_n hx hb d_Mo_name_88 rfl (lv_at hl 3 rfl) ?_
                  refine gw_get M hK hI hM.O i_Mo rfl 3 (by decide) f_Mo_17 rfl (Pv := fun v => v = .ref (q 3)) (fun x hx => ⟨_, _, hx, rfl, rfl⟩) d_Mo_name_89 (fun v hv => ?_)
                  subst hv
                  refine lv_iload_n hx hb d_Mo_name_92 rfl (lv_at hl 2 rfl) ?_
                  refine gw_ialdx M hK hI hM.k3 (nb_in hk lk) d_Mo_name_93 ?_
                  rw [show (y2).toNatClampNeg = k from (nb_cl hk)]
                  exact gw_iret M hr hlo hI d_Mo_name_94 (⟨Or.inr ⟨k, lk, c_80, (h3 c_80).symm.trans c_85, rfl⟩, hM, hf⟩)
            · have lj : j < 16 := nb_lt (n := 16) hj c_22 (by decide) (z_31 bj)
              refine lv_iload_n hx hb d_Mo_name_25 rfl (lv_at hl 1 rfl) ?_
              refine lv_aload_n hx hb d_Mo_name_26 rfl (lv_at hl 3 rfl) ?_
              refine gw_get M hK hI hM.O i_Mo rfl 2 (by decide) f_Mo_13 rfl (Pv := fun v => v = .ref (q 2)) (fun x hx => ⟨_, _, hx, rfl, rfl⟩) d_Mo_name_27 (fun v hv => ?_)
              subst hv
              refine lv_iload hx hb d_Mo_name_30 (lv_at hl 0 rfl) ?_
              refine gw_zaldx M hK hI hM.k2 (nb_in hj lj) d_Mo_name_32 ?_
              rw [show (y4).toNatClampNeg = j from (nb_cl hj)]
              refine lv_if_eq (tgt := 65) hx hb d_Mo_name_33 (by decide) (fun c_33 => ?_) (fun c_33 => ?_)
              · have hrd := c_33
                refine lv_iconst (v := 0) hx hb d_Mo_name_65 (by decide) ?_
                refine lv_iadd hx hb d_Mo_name_66 ?_
                refine lv_topi (fun x4 e_x4 => ?_)
                refine lv_istore_n (lv' := [(3, .int x4), (4, .int y4), (2, .int y2), (0, .ref o), (1, .int a1)]) hx hb d_Mo_name_67 rfl hl (by decide) rfl (fun ls hl => ?_)
                obtain ⟨x5, e_x5⟩ : ∃ ww9 : Int32, ww9 = y4 + 1 := ⟨_, rfl⟩
                refine lv_iinc (v := x5) (lv' := [(4, .int x5), (3, .int x4), (2, .int y2), (0, .ref o), (1, .int a1)]) hx hb d_Mo_name_68 hl (k := 1) rfl (by rw [e_x5]; rfl) (by decide) rfl (fun ls hl => ?_)
                refine lv_goto (tgt := 18) hx hb d_Mo_name_71 (by decide) ?_
                exact ih_18 (j + 1) x4 x5 _ _ _ lj (nb_s e_x5 hj) (fun hu => by rw [e_x4, h3 hu, rk_0 (fun q9 => q9.1 c_33)]; exact Int32.add_zero _) (z_m hm_18 lj) hI (lv_sub hl [0, 1, 2, 3, 4] rfl)
              · refine lv_aload_n hx hb d_Mo_name_36 rfl (lv_at hl 3 rfl) ?_
                refine gw_get M hK hI hM.O i_Mo rfl 2 (by decide) f_Mo_13 rfl (Pv := fun v => v = .ref (q 2)) (fun x hx => ⟨_, _, hx, rfl, rfl⟩) d_Mo_name_37 (fun v hv => ?_)
                subst hv
                refine lv_iload_n hx hb d_Mo_name_40 rfl (lv_at hl 2 rfl) ?_
                refine gw_zaldx M hK hI hM.k2 (nb_in hk lk) d_Mo_name_41 ?_
                rw [show (y2).toNatClampNeg = k from (nb_cl hk)]
                refine lv_if_eq (tgt := 65) hx hb d_Mo_name_42 (by decide) (fun c_42 => ?_) (fun c_42 => ?_)
                · have hrd := c_42
                  refine lv_iconst (v := 0) hx hb d_Mo_name_65 (by decide) ?_
                  refine lv_iadd hx hb d_Mo_name_66 ?_
                  refine lv_topi (fun x6 e_x6 => ?_)
                  refine lv_istore_n (lv' := [(3, .int x6), (4, .int y4), (2, .int y2), (0, .ref o), (1, .int a1)]) hx hb d_Mo_name_67 rfl hl (by decide) rfl (fun ls hl => ?_)
                  obtain ⟨x7, e_x7⟩ : ∃ ww9 : Int32, ww9 = y4 + 1 := ⟨_, rfl⟩
                  refine lv_iinc (v := x7) (lv' := [(4, .int x7), (3, .int x6), (2, .int y2), (0, .ref o), (1, .int a1)]) hx hb d_Mo_name_68 hl (k := 1) rfl (by rw [e_x7]; rfl) (by decide) rfl (fun ls hl => ?_)
                  refine lv_goto (tgt := 18) hx hb d_Mo_name_71 (by decide) ?_
                  exact ih_18 (j + 1) x6 x7 _ _ _ lj (nb_s e_x7 hj) (fun hu => absurd c_42 hu) (z_m hm_18 lj) hI (lv_sub hl [0, 1, 2, 3, 4] rfl)
                · refine lv_aload_n hx hb d_Mo_name_45 rfl (lv_at hl 3 rfl) ?_
                  refine gw_get M hK hI hM.O i_Mo rfl 3 (by decide) f_Mo_17 rfl (Pv := fun v => v = .ref (q 3)) (fun x hx => ⟨_, _, hx, rfl, rfl⟩) d_Mo_name_46 (fun v hv => ?_)
                  subst hv
                  refine lv_iload hx hb d_Mo_name_49 (lv_at hl 0 rfl) ?_
                  refine gw_ialdx M hK hI hM.k3 (nb_in hj lj) d_Mo_name_51 ?_
                  rw [show (y4).toNatClampNeg = j from (nb_cl hj)]
                  refine lv_aload_n hx hb d_Mo_name_52 rfl (lv_at hl 3 rfl) ?_
                  refine gw_get M hK hI hM.O i_Mo rfl 3 (by decide) f_Mo_17 rfl (Pv := fun v => v = .ref (q 3)) (fun x hx => ⟨_, _, hx, rfl, rfl⟩) d_Mo_name_53 (fun v hv => ?_)
                  subst hv
                  refine lv_iload_n hx hb d_Mo_name_56 rfl (lv_at hl 2 rfl) ?_
                  refine gw_ialdx M hK hI hM.k3 (nb_in hk lk) d_Mo_name_57 ?_
                  rw [show (y2).toNatClampNeg = k from (nb_cl hk)]
                  refine lv_icmp_ge (tgt := 65) hx hb d_Mo_name_58 (by decide) (fun c_58 => ?_) (fun c_58 => ?_)
                  · have hrd := c_58
                    refine lv_iconst (v := 0) hx hb d_Mo_name_65 (by decide) ?_
                    refine lv_iadd hx hb d_Mo_name_66 ?_
                    refine lv_topi (fun x8 e_x8 => ?_)
                    refine lv_istore_n (lv' := [(3, .int x8), (4, .int y4), (2, .int y2), (0, .ref o), (1, .int a1)]) hx hb d_Mo_name_67 rfl hl (by decide) rfl (fun ls hl => ?_)
                    obtain ⟨x9, e_x9⟩ : ∃ ww9 : Int32, ww9 = y4 + 1 := ⟨_, rfl⟩
                    refine lv_iinc (v := x9) (lv' := [(4, .int x9), (3, .int x8), (2, .int y2), (0, .ref o), (1, .int a1)]) hx hb d_Mo_name_68 hl (k := 1) rfl (by rw [e_x9]; rfl) (by decide) rfl (fun ls hl => ?_)
                    refine lv_goto (tgt := 18) hx hb d_Mo_name_71 (by decide) ?_
                    exact ih_18 (j + 1) x8 x9 _ _ _ lj (nb_s e_x9 hj) (fun hu => by rw [e_x8, h3 hu, rk_0 (fun q9 => Int32.not_lt.mpr c_58 q9.2)]; exact Int32.add_zero _) (z_m hm_18 lj) hI (lv_sub hl [0, 1, 2, 3, 4] rfl)
                  · have hrd := c_58
                    refine lv_iconst (v := 1) hx hb d_Mo_name_61 (by decide) ?_
                    refine lv_goto (tgt := 66) hx hb d_Mo_name_62 (by decide) ?_
                    refine lv_iadd hx hb d_Mo_name_66 ?_
                    refine lv_topi (fun x10 e_x10 => ?_)
                    refine lv_istore_n (lv' := [(3, .int x10), (4, .int y4), (2, .int y2), (0, .ref o), (1, .int a1)]) hx hb d_Mo_name_67 rfl hl (by decide) rfl (fun ls hl => ?_)
                    obtain ⟨x11, e_x11⟩ : ∃ ww9 : Int32, ww9 = y4 + 1 := ⟨_, rfl⟩
                    refine lv_iinc (v := x11) (lv' := [(4, .int x11), (3, .int x10), (2, .int y2), (0, .ref o), (1, .int a1)]) hx hb d_Mo_name_68 hl (k := 1) rfl (by rw [e_x11]; rfl) (by decide) rfl (fun ls hl => ?_)
                    refine lv_goto (tgt := 18) hx hb d_Mo_name_71 (by decide) ?_
                    exact ih_18 (j + 1) x10 x11 _ _ _ lj (nb_s e_x11 hj) (fun hu => by rw [e_x10, h3 hu, rk_1 ⟨c_33, Int32.not_le.mp c_58⟩]; exact nI_1 _) (z_m hm_18 lj) hI (lv_sub hl [0, 1, 2, 3, 4] rfl)
        exact L_18 _ 0 0 0 _ _ _ (Nat.zero_le _) rfl (fun _ => rfl) (Nat.lt_succ_self _) hI (lv_sub hl [0, 1, 2, 3, 4] rfl)
  exact L_7 _ 0 0 _ _ _ (Nat.zero_le _) rfl (fun s h => absurd h (Nat.not_lt_zero _)) (Nat.lt_succ_self _) hI (lv_sub hl [0, 1, 2] rfl)
