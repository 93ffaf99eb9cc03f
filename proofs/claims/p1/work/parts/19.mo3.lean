theorem mo_ne2 {D : gw_D} {k : Nat} (h : mo_is k = true) (h2 : ¬ k = 2) : ∃ x, mo_kind D tZ k x ∧ ¬ kA D 2 16 tZ x := by
  have hk : k < 30 := by simp [mo_is] at h; exact h.2
  match k, hk, h, h2 with
  | 0, _, h, _ => cases h
  | 1, _, _, _ => exact ⟨.inl (D.2 0, 256, .inl (fun _ => 1)), ⟨_, fun _ _ => (show uN 1 < 256 by decide), rfl⟩, fun h => by obtain ⟨f, hf, h⟩ := h; have h9 := Sum.inl.inj (congrArg (fun z => z.2.2) (Sum.inl.inj h)); have h8 : f 0 = 0 := hf 0 (by decide); rw [← h9] at h8; exact absurd h8 (by decide)⟩
  | 2, _, _, h => exact absurd rfl h
  | 3, _, _, _ => exact ⟨.inl (D.2 0, 16, .inl (fun _ => 1)), ⟨_, fun _ _ => trivial, rfl⟩, fun h => by obtain ⟨f, hf, h⟩ := h; have h9 := Sum.inl.inj (congrArg (fun z => z.2.2) (Sum.inl.inj h)); have h8 : f 0 = 0 := hf 0 (by decide); rw [← h9] at h8; exact absurd h8 (by decide)⟩
  | 4, _, _, _ => exact ⟨.inl (D.2 0, 2816, .inl (fun _ => 1)), ⟨_, fun _ _ => (show uN 1 < 256 by decide), rfl⟩, fun h => by obtain ⟨f, hf, h⟩ := h; have h9 := Sum.inl.inj (congrArg (fun z => z.2.2) (Sum.inl.inj h)); have h8 : f 0 = 0 := hf 0 (by decide); rw [← h9] at h8; exact absurd h8 (by decide)⟩
  | 5, _, _, _ => exact ⟨.inl (D.2 0, 16, .inl (fun _ => 1)), ⟨_, fun _ _ => trivial, rfl⟩, fun h => by obtain ⟨f, hf, h⟩ := h; have h9 := Sum.inl.inj (congrArg (fun z => z.2.2) (Sum.inl.inj h)); have h8 : f 0 = 0 := hf 0 (by decide); rw [← h9] at h8; exact absurd h8 (by decide)⟩
  | 6, _, _, _ => exact ⟨.inl (D.2 0, 16, .inl (fun _ => 1)), ⟨_, fun _ _ => trivial, rfl⟩, fun h => by obtain ⟨f, hf, h⟩ := h; have h9 := Sum.inl.inj (congrArg (fun z => z.2.2) (Sum.inl.inj h)); have h8 : f 0 = 0 := hf 0 (by decide); rw [← h9] at h8; exact absurd h8 (by decide)⟩
  | 7, _, _, _ => exact ⟨.inl (D.2 2, 16, .inl (fun _ => 1)), ⟨_, fun _ _ => trivial, rfl⟩, fun h => by obtain ⟨f, hf, h⟩ := h; have h9 := Sum.inl.inj (congrArg (fun z => z.2.2) (Sum.inl.inj h)); have h8 : f 0 = 0 := hf 0 (by decide); rw [← h9] at h8; exact absurd h8 (by decide)⟩
  | 8, _, _, _ => exact ⟨.inl (D.2 3, 16, .inr (.inl (fun _ => 0))), ⟨_, fun _ _ => trivial, rfl⟩, fun h => by obtain ⟨f, -, h⟩ := h; have h9 := congrArg (fun z => z.2.2) (Sum.inl.inj h); cases h9⟩
  | 9, _, _, _ => exact ⟨.inl (D.2 0, 16, .inl (fun _ => 1)), ⟨_, fun _ _ => trivial, rfl⟩, fun h => by obtain ⟨f, hf, h⟩ := h; have h9 := Sum.inl.inj (congrArg (fun z => z.2.2) (Sum.inl.inj h)); have h8 : f 0 = 0 := hf 0 (by decide); rw [← h9] at h8; exact absurd h8 (by decide)⟩
  | 10, _, _, _ => exact ⟨.inl (D.2 3, 16, .inr (.inl (fun _ => 0))), ⟨_, fun _ _ => trivial, rfl⟩, fun h => by obtain ⟨f, -, h⟩ := h; have h9 := congrArg (fun z => z.2.2) (Sum.inl.inj h); cases h9⟩
  | 11, _, _, _ => exact ⟨.inl (D.2 3, 16, .inr (.inl (fun _ => 0))), ⟨_, fun _ _ => trivial, rfl⟩, fun h => by obtain ⟨f, -, h⟩ := h; have h9 := congrArg (fun z => z.2.2) (Sum.inl.inj h); cases h9⟩
  | 12, _, _, _ => exact ⟨.inl (D.2 0, 16, .inl (fun _ => 1)), ⟨_, fun _ _ => trivial, rfl⟩, fun h => by obtain ⟨f, hf, h⟩ := h; have h9 := Sum.inl.inj (congrArg (fun z => z.2.2) (Sum.inl.inj h)); have h8 : f 0 = 0 := hf 0 (by decide); rw [← h9] at h8; exact absurd h8 (by decide)⟩
  | 13, _, _, _ => exact ⟨.inl (D.2 0, 16, .inl (fun _ => 1)), ⟨_, fun _ _ => trivial, rfl⟩, fun h => by obtain ⟨f, hf, h⟩ := h; have h9 := Sum.inl.inj (congrArg (fun z => z.2.2) (Sum.inl.inj h)); have h8 : f 0 = 0 := hf 0 (by decide); rw [← h9] at h8; exact absurd h8 (by decide)⟩
  | 14, _, _, _ => exact ⟨.inl (D.2 3, 17600, .inr (.inl (fun _ => 0))), ⟨_, fun _ _ => trivial, rfl⟩, fun h => by obtain ⟨f, -, h⟩ := h; have h9 := congrArg (fun z => z.2.2) (Sum.inl.inj h); cases h9⟩
  | 15, _, _, _ => exact ⟨.inl (D.2 0, 16, .inl (fun _ => 1)), ⟨_, fun _ _ => trivial, rfl⟩, fun h => by obtain ⟨f, hf, h⟩ := h; have h9 := Sum.inl.inj (congrArg (fun z => z.2.2) (Sum.inl.inj h)); have h8 : f 0 = 0 := hf 0 (by decide); rw [← h9] at h8; exact absurd h8 (by decide)⟩
  | 16, _, _, _ => exact ⟨.inl (D.2 0, 200, .inl (fun _ => 1)), ⟨_, fun _ _ => trivial, rfl⟩, fun h => by obtain ⟨f, hf, h⟩ := h; have h9 := Sum.inl.inj (congrArg (fun z => z.2.2) (Sum.inl.inj h)); have h8 : f 0 = 0 := hf 0 (by decide); rw [← h9] at h8; exact absurd h8 (by decide)⟩
  | 17, _, h, _ => cases h
  | 18, _, _, _ => exact ⟨.inl (D.2 0, 240, .inl (fun _ => 1)), ⟨_, fun _ _ => trivial, rfl⟩, fun h => by obtain ⟨f, hf, h⟩ := h; have h9 := Sum.inl.inj (congrArg (fun z => z.2.2) (Sum.inl.inj h)); have h8 : f 0 = 0 := hf 0 (by decide); rw [← h9] at h8; exact absurd h8 (by decide)⟩
  | 19, _, h, _ => cases h
  | 20, _, _, _ => exact ⟨.inl (D.2 0, 1920, .inl (fun _ => 1)), ⟨_, fun _ _ => trivial, rfl⟩, fun h => by obtain ⟨f, hf, h⟩ := h; have h9 := Sum.inl.inj (congrArg (fun z => z.2.2) (Sum.inl.inj h)); have h8 : f 0 = 0 := hf 0 (by decide); rw [← h9] at h8; exact absurd h8 (by decide)⟩
  | 21, _, _, _ => exact ⟨.inl (D.2 0, 8, .inl (fun _ => -1)), ⟨_, fun _ _ => rfl, rfl⟩, fun h => by obtain ⟨f, hf, h⟩ := h; have h9 := Sum.inl.inj (congrArg (fun z => z.2.2) (Sum.inl.inj h)); have h8 : f 0 = 0 := hf 0 (by decide); rw [← h9] at h8; exact absurd h8 (by decide)⟩
  | 22, _, _, _ => exact ⟨.inl (D.2 0, 240, .inl (fun _ => 1)), ⟨_, fun _ _ => trivial, rfl⟩, fun h => by obtain ⟨f, hf, h⟩ := h; have h9 := Sum.inl.inj (congrArg (fun z => z.2.2) (Sum.inl.inj h)); have h8 : f 0 = 0 := hf 0 (by decide); rw [← h9] at h8; exact absurd h8 (by decide)⟩
  | 23, _, h, _ => cases h
  | 24, _, _, _ => exact ⟨.inl (D.2 0, 16, .inl (fun _ => 1)), ⟨_, fun _ _ => trivial, rfl⟩, fun h => by obtain ⟨f, hf, h⟩ := h; have h9 := Sum.inl.inj (congrArg (fun z => z.2.2) (Sum.inl.inj h)); have h8 : f 0 = 0 := hf 0 (by decide); rw [← h9] at h8; exact absurd h8 (by decide)⟩
  | 25, _, _, _ => exact ⟨.inl (D.2 0, 16, .inl (fun _ => 1)), ⟨_, fun _ _ => trivial, rfl⟩, fun h => by obtain ⟨f, hf, h⟩ := h; have h9 := Sum.inl.inj (congrArg (fun z => z.2.2) (Sum.inl.inj h)); have h8 : f 0 = 0 := hf 0 (by decide); rw [← h9] at h8; exact absurd h8 (by decide)⟩
  | 26, _, _, _ => exact ⟨.inl (D.2 0, 16, .inl (fun _ => 1)), ⟨_, fun _ _ => trivial, rfl⟩, fun h => by obtain ⟨f, hf, h⟩ := h; have h9 := Sum.inl.inj (congrArg (fun z => z.2.2) (Sum.inl.inj h)); have h8 : f 0 = 0 := hf 0 (by decide); rw [← h9] at h8; exact absurd h8 (by decide)⟩
  | 27, _, _, _ => exact ⟨.inl (D.2 0, 16, .inl (fun _ => 1)), ⟨_, fun _ _ => trivial, rfl⟩, fun h => by obtain ⟨f, hf, h⟩ := h; have h9 := Sum.inl.inj (congrArg (fun z => z.2.2) (Sum.inl.inj h)); have h8 : f 0 = 0 := hf 0 (by decide); rw [← h9] at h8; exact absurd h8 (by decide)⟩
  | 28, _, _, _ => exact ⟨.inl (D.2 0, 16, .inl (fun _ => 1)), ⟨_, fun _ _ => trivial, rfl⟩, fun h => by obtain ⟨f, hf, h⟩ := h; have h9 := Sum.inl.inj (congrArg (fun z => z.2.2) (Sum.inl.inj h)); have h8 : f 0 = 0 := hf 0 (by decide); rw [← h9] at h8; exact absurd h8 (by decide)⟩
  | 29, _, _, _ => exact ⟨.inl (D.2 0, 16, .inl (fun _ => 1)), ⟨_, fun _ _ => trivial, rfl⟩, fun h => by obtain ⟨f, hf, h⟩ := h; have h9 := Sum.inl.inj (congrArg (fun z => z.2.2) (Sum.inl.inj h)); have h8 : f 0 = 0 := hf 0 (by decide); rw [← h9] at h8; exact absurd h8 (by decide)⟩
  | k + 30, hk, _, _ => exact absurd hk (Nat.not_lt.mpr (Nat.le_add_left _ _))

theorem mo_ok.use {D : gw_D} {q : Nat → Nat} {G G1 : gw_G} (h : mo_ok D tZ q G) (hf : gw_fr (fun b => b = q 2) G G1) (hu : G1 (q 2) = some (kA D 2 16 tT)) : mo_ok D tT q G1 := by
  refine ⟨trivial, fun k hk => ?_⟩
  by_cases h2 : k = 2
  · subst h2; exact hu
  · have e : mo_kind D tT k = mo_kind D tZ k := by
      have hk30 : k < 30 := by simp [mo_is] at hk; exact hk.2
      match k, hk30, h2 with
      | 0, _, _ => rfl
      | 1, _, _ => rfl
      | 2, _, h => exact absurd rfl h
      | 3, _, _ => rfl
      | 4, _, _ => rfl
      | 5, _, _ => rfl
      | 6, _, _ => rfl
      | 7, _, _ => rfl
      | 8, _, _ => rfl
      | 9, _, _ => rfl
      | 10, _, _ => rfl
      | 11, _, _ => rfl
      | 12, _, _ => rfl
      | 13, _, _ => rfl
      | 14, _, _ => rfl
      | 15, _, _ => rfl
      | 16, _, _ => rfl
      | 17, _, _ => rfl
      | 18, _, _ => rfl
      | 19, _, _ => rfl
      | 20, _, _ => rfl
      | 21, _, _ => rfl
      | 22, _, _ => rfl
      | 23, _, _ => rfl
      | 24, _, _ => rfl
      | 25, _, _ => rfl
      | 26, _, _ => rfl
      | 27, _, _ => rfl
      | 28, _, _ => rfl
      | 29, _, _ => rfl
      | k + 30, hk, _ => exact absurd hk (Nat.not_lt.mpr (Nat.le_add_left _ _))
    rw [e]
    obtain ⟨x, h1, h3⟩ := mo_ne2 (D := D) hk h2
    exact hf _ _ (h.2 k hk) (gw_ne (h.2 k hk) (h.2 2 rfl) h1 h3)
/-- a window's width as the document has it -/
def okW (x : Int32) : Prop := ¬ x < 32 ∧ ¬ 1024 < x ∧ x - x / 32 * 32 = 0

abbrev rm_Mo_add : Room := { frames := 2, cells := 0, slots := 0, locals := 53 }
set_option maxHeartbeats 4000000 in
set_option maxRecDepth 100000 in
theorem c_Mo_add (l : Launch) {D : gw_D} {Hs : Heap} {G : gw_G} (n1 : Int32) (kh kl : Int64) (n6 n7 n8 : Int32) (h8 : n8 = 0 ∨ n8 = 1) (o : Nat) (q : Nat → Nat) (t0 f0 l0 g0 : Int32) (hO : G o = some (kx (mo_ob q t0 f0 l0 g0))) (hA : mo_ok D tZ q G) : Met l y_Mo_add (Cond.code y_Mo_add b_Mo_add 10 (some .boolean) :: tb) rm_Mo_add (gw_Pc D Hs G [.ref o, .int n1, .long kh, .long kl, .int n6, .int n7, .int n8]) (gw_Qi D Hs (fun r G1 => ((n1 < 256 ∨ ¬ okW n7) ∧ G1 = gw_up G o (kx (mo_ob q 1 f0 l0 g0))) ∨ ((¬ n1 < 256 ∧ okW n7) ∧ r = 1 ∧ G1 o = some (kx (mo_ob q 0 f0 l0 g0)) ∧ gw_fr (fun b => b = o ∨ b = q 2) G G1))) 0 0 (gw_A Hs) := by
  refine gw_met (by decide) (Nat.le_of_ble_eq_true rfl) ?_
  intro p e s m args below meth c M hK hr hlo hin hI ls hl
  have hx := M.1
  have hb := M.2.1
  have hl : lv_has ls 10 [(0, .ref o), (1, .int n1), (2, .long kh), (4, .long kl), (6, .int n6), (7, .int n7), (8, .int n8)] := hl
  refine lv_aload_n hx hb d_Mo_add_0 rfl (lv_at hl 0 rfl) ?_
  refine lv_iload_n hx hb d_Mo_add_1 rfl (lv_at hl 1 rfl) ?_
  refine lv_sipush (v := 256) hx hb d_Mo_add_2 (by decide) ?_
  refine lv_icmp_lt (tgt := 31) hx hb d_Mo_add_5 (by decide) (fun c_5 => ?_) (fun c_5 => ?_)
  · have hw1 := c_5
    refine lv_iconst (v := 1) hx hb d_Mo_add_31 (by decide) ?_
    refine lv_goto (tgt := 36) hx hb d_Mo_add_32 (by decide) ?_
    refine gw_put M hK hI hO i_Mo t_Mo tk_Mo n_Mo rfl 0 (by decide) f_Mo_94 rfl rfl rfl (kx (mo_ob q 1 f0 l0 g0)) (fun x hx => ⟨_, hx, Nat.le_of_ble_eq_true rfl, rfl⟩) d_Mo_add_36 (fun H locs hI => ?_)
    obtain ⟨G1, hE_G1⟩ : ∃ z9, gw_up G o (kx (mo_ob q 1 f0 l0 g0)) = z9 := ⟨_, rfl⟩
    rw [hE_G1] at hI
    have hG3 : G1 o = some (kx (mo_ob q 1 f0 l0 g0)) := by rw [← hE_G1]; exact gw_up_s
    have hs2 : gw_fr (fun b => b = o) G G1 := by rw [← hE_G1]; exact gw_fr.up rfl
    have hA := hA.fr hO hs2
    refine lv_aload_n hx hb d_Mo_add_39 rfl (lv_at hl 0 rfl) ?_
    refine gw_get M hK hI hG3 i_Mo rfl 0 (by decide) f_Mo_94 rfl (Pv := fun v => v = .int 1) (fun x hx => ⟨_, _, hx, rfl, rfl⟩) d_Mo_add_40 (fun v hv => ?_)
    subst hv
    refine lv_if_gt (tgt := 54) hx hb d_Mo_add_43 (by decide) (fun c_43 => ?_) (fun q9 => absurd (by decide) q9)
    refine lv_iconst (v := 0) hx hb d_Mo_add_54 (by decide) ?_
    exact gw_zret M hr rfl hlo hI d_Mo_add_55 (Or.inl ⟨Or.inl c_5, (by first | rfl | exact hE_G1.symm | (rw [← hE_G1]; simp only [gw_up_up]) | (simp only [← hE_G1, gw_up_up]))⟩)
  · refine lv_iload hx hb d_Mo_add_8 (lv_at hl 5 rfl) ?_
    refine lv_bipush (v := 32) hx hb d_Mo_add_10 (by decide) ?_
    refine lv_icmp_lt (tgt := 31) hx hb d_Mo_add_12 (by decide) (fun c_12 => ?_) (fun c_12 => ?_)
    · have hw1 := c_12
      refine lv_iconst (v := 1) hx hb d_Mo_add_31 (by decide) ?_
      refine lv_goto (tgt := 36) hx hb d_Mo_add_32 (by decide) ?_
      refine gw_put M hK hI hO i_Mo t_Mo tk_Mo n_Mo rfl 0 (by decide) f_Mo_94 rfl rfl rfl (kx (mo_ob q 1 f0 l0 g0)) (fun x hx => ⟨_, hx, Nat.le_of_ble_eq_true rfl, rfl⟩) d_Mo_add_36 (fun H locs hI => ?_)
      obtain ⟨G4, hE_G4⟩ : ∃ z9, gw_up G o (kx (mo_ob q 1 f0 l0 g0)) = z9 := ⟨_, rfl⟩
      rw [hE_G4] at hI
      have hG6 : G4 o = some (kx (mo_ob q 1 f0 l0 g0)) := by rw [← hE_G4]; exact gw_up_s
      have hs5 : gw_fr (fun b => b = o) G G4 := by rw [← hE_G4]; exact gw_fr.up rfl
      have hA := hA.fr hO hs5
      refine lv_aload_n hx hb d_Mo_add_39 rfl (lv_at hl 0 rfl) ?_
      refine gw_get M hK hI hG6 i_Mo rfl 0 (by decide) f_Mo_94 rfl (Pv := fun v => v = .int 1) (fun x hx => ⟨_, _, hx, rfl, rfl⟩) d_Mo_add_40 (fun v hv => ?_)
      subst hv
      refine lv_if_gt (tgt := 54) hx hb d_Mo_add_43 (by decide) (fun c_43 => ?_) (fun q9 => absurd (by decide) q9)
      refine lv_iconst (v := 0) hx hb d_Mo_add_54 (by decide) ?_
      exact gw_zret M hr rfl hlo hI d_Mo_add_55 (Or.inl ⟨Or.inr (fun h => h.1 c_12), (by first | rfl | exact hE_G4.symm | (rw [← hE_G4]; simp only [gw_up_up]) | (simp only [← hE_G4, gw_up_up]))⟩)
    · refine lv_iload hx hb d_Mo_add_15 (lv_at hl 5 rfl) ?_
      refine lv_sipush (v := 1024) hx hb d_Mo_add_17 (by decide) ?_
      refine lv_icmp_gt (tgt := 31) hx hb d_Mo_add_20 (by decide) (fun c_20 => ?_) (fun c_20 => ?_)
      · have hw1 := c_20
        refine lv_iconst (v := 1) hx hb d_Mo_add_31 (by decide) ?_
        refine lv_goto (tgt := 36) hx hb d_Mo_add_32 (by decide) ?_
        refine gw_put M hK hI hO i_Mo t_Mo tk_Mo n_Mo rfl 0 (by decide) f_Mo_94 rfl rfl rfl (kx (mo_ob q 1 f0 l0 g0)) (fun x hx => ⟨_, hx, Nat.le_of_ble_eq_true rfl, rfl⟩) d_Mo_add_36 (fun H locs hI => ?_)
        obtain ⟨G7, hE_G7⟩ : ∃ z9, gw_up G o (kx (mo_ob q 1 f0 l0 g0)) = z9 := ⟨_, rfl⟩
        rw [hE_G7] at hI
        have hG9 : G7 o = some (kx (mo_ob q 1 f0 l0 g0)) := by rw [← hE_G7]; exact gw_up_s
        have hs8 : gw_fr (fun b => b = o) G G7 := by rw [← hE_G7]; exact gw_fr.up rfl
        have hA := hA.fr hO hs8
        refine lv_aload_n hx hb d_Mo_add_39 rfl (lv_at hl 0 rfl) ?_
        refine gw_get M hK hI hG9 i_Mo rfl 0 (by decide) f_Mo_94 rfl (Pv := fun v => v = .int 1) (fun x hx => ⟨_, _, hx, rfl, rfl⟩) d_Mo_add_40 (fun v hv => ?_)
        subst hv
        refine lv_if_gt (tgt := 54) hx hb d_Mo_add_43 (by decide) (fun c_43 => ?_) (fun q9 => absurd (by decide) q9)
        refine lv_iconst (v := 0) hx hb d_Mo_add_54 (by decide) ?_
        exact gw_zret M hr rfl hlo hI d_Mo_add_55 (Or.inl ⟨Or.inr (fun h => h.2.1 c_20), (by first | rfl | exact hE_G7.symm | (rw [← hE_G7]; simp only [gw_up_up]) | (simp only [← hE_G7, gw_up_up]))⟩)
      · refine lv_iload hx hb d_Mo_add_23 (lv_at hl 5 rfl) ?_
        refine lv_bipush (v := 32) hx hb d_Mo_add_25 (by decide) ?_
        refine lv_irem hx hb d_Mo_add_27 (by decide) ?_
        refine lv_if_eq (tgt := 35) hx hb d_Mo_add_28 (by decide) (fun c_28 => ?_) (fun c_28 => ?_)
        · refine lv_iconst (v := 0) hx hb d_Mo_add_35 (by decide) ?_
          refine gw_put M hK hI hO i_Mo t_Mo tk_Mo n_Mo rfl 0 (by decide) f_Mo_94 rfl rfl rfl (kx (mo_ob q 0 f0 l0 g0)) (fun x hx => ⟨_, hx, Nat.le_of_ble_eq_true rfl, rfl⟩) d_Mo_add_36 (fun H locs hI => ?_)
          obtain ⟨G10, hE_G10⟩ : ∃ z9, gw_up G o (kx (mo_ob q 0 f0 l0 g0)) = z9 := ⟨_, rfl⟩
          rw [hE_G10] at hI
          have hG12 : G10 o = some (kx (mo_ob q 0 f0 l0 g0)) := by rw [← hE_G10]; exact gw_up_s
          have hs11 : gw_fr (fun b => b = o) G G10 := by rw [← hE_G10]; exact gw_fr.up rfl
          have hA := hA.fr hO hs11
          refine lv_aload_n hx hb d_Mo_add_39 rfl (lv_at hl 0 rfl) ?_
          refine gw_get M hK hI hG12 i_Mo rfl 0 (by decide) f_Mo_94 rfl (Pv := fun v => v = .int 0) (fun x hx => ⟨_, _, hx, rfl, rfl⟩) d_Mo_add_40 (fun v hv => ?_)
          subst hv
          refine lv_if_gt (tgt := 54) hx hb d_Mo_add_43 (by decide) (fun q9 => absurd q9 (by decide)) (fun c_43 => ?_)
          refine lv_aload_n hx hb d_Mo_add_46 rfl (lv_at hl 0 rfl) ?_
          refine lv_iload_n hx hb d_Mo_add_47 rfl (lv_at hl 1 rfl) ?_
          refine gw_Vi (As := [.int n1]) (rest := []) M hK hI (c_Mo_find l n1 o q 0 f0 l0 g0 hG12 hA) k_Mo_find m_Mo_135 hG12 (ci := 6) rfl (fun x hx => ⟨_, hx⟩) rfl hl.1 rfl (Nat.le_of_ble_eq_true rfl) ⟨rfl, rfl, ⟨Nat.le_of_ble_eq_true rfl, Nat.le_of_ble_eq_true rfl⟩, ⟨Nat.le_of_ble_eq_true rfl, Nat.le_of_ble_eq_true rfl⟩⟩ d_Mo_add_48 (fun x13 G9 H locs hw hI => ?_)
          obtain ⟨h_x13, hw⟩ := hw
          rw [hw] at hI
          subst h_x13
          refine lv_if_lt (tgt := 56) hx hb d_Mo_add_51 (by decide) (fun c_51 => ?_) (fun q9 => absurd (by decide) q9)
          refine lv_iconst (v := 0) hx hb d_Mo_add_56 (by decide) ?_
          refine lv_istore (lv' := [(9, .int 0), (0, .ref o), (1, .int n1), (2, .long kh), (4, .long kl), (6, .int n6), (7, .int n7), (8, .int n8)]) hx hb d_Mo_add_57 hl (by decide) rfl (fun ls hl => ?_)
          refine lv_iload hx hb d_Mo_add_59 (lv_at hl 0 rfl) ?_
          refine lv_bipush (v := 16) hx hb d_Mo_add_61 (by decide) ?_
          refine lv_icmp_ge (tgt := 82) hx hb d_Mo_add_63 (by decide) (fun q9 => absurd q9 (by decide)) (fun c_63 => ?_)
          refine lv_aload_n hx hb d_Mo_add_66 rfl (lv_at hl 1 rfl) ?_
          refine gw_get M hK hI hG12 i_Mo rfl 2 (by decide) f_Mo_13 rfl (Pv := fun v => v = .ref (q 2)) (fun x hx => ⟨_, _, hx, rfl, rfl⟩) d_Mo_add_67 (fun v hv => ?_)
          subst hv
          refine lv_iload hx hb d_Mo_add_70 (lv_at hl 0 rfl) ?_
          refine gw_zald M hK hI (hA.2 2 rfl : _ = some (kA D 2 16 tZ)) (vp_in_nI (n := 0) (by decide) (by decide)) d_Mo_add_72 (fun x14 h_x14 => ?_)
          refine lv_if_eq (tgt := 82) hx hb d_Mo_add_73 (by decide) (fun c_73 => ?_) (fun q9 => absurd h_x14 q9)
          refine lv_iload hx hb d_Mo_add_82 (lv_at hl 0 rfl) ?_
          refine lv_bipush (v := 16) hx hb d_Mo_add_84 (by decide) ?_
          refine lv_icmp_ne (tgt := 91) hx hb d_Mo_add_86 (by decide) (fun c_86 => ?_) (fun q9 => absurd q9 (by decide))
          refine lv_aload_n hx hb d_Mo_add_91 rfl (lv_at hl 1 rfl) ?_
          refine gw_get M hK hI hG12 i_Mo rfl 2 (by decide) f_Mo_13 rfl (Pv := fun v => v = .ref (q 2)) (fun x hx => ⟨_, _, hx, rfl, rfl⟩) d_Mo_add_92 (fun v hv => ?_)
          subst hv
          refine lv_iload hx hb d_Mo_add_95 (lv_at hl 0 rfl) ?_
          refine lv_iconst (v := 1) hx hb d_Mo_add_97 (by decide) ?_
          have hq2 : _ = some (kA D 2 16 tZ) := hA.2 2 rfl
          obtain ⟨-, x9, ⟨f9, hf9, rfl⟩, hat⟩ := hI.1.2.2 (q 2) _ hq2
          refine gw_zast0 M hK hI hq2 hat (vp_in_nI (n := 0) (by decide) (by decide)) (kA D 2 16 tT) ⟨_, fun _ _ => trivial, rfl⟩ d_Mo_add_98 (fun H locs hI => ?_)
          have hne2 : o ≠ q 2 := ne_x hG12 hq2 (fun q => by obtain ⟨f, -, q⟩ := q; cases q)
          obtain ⟨G15, hE_G15⟩ : ∃ z9, gw_up G10 (q 2) (kA D 2 16 tT) = z9 := ⟨_, rfl⟩
          rw [hE_G15] at hI
          have hG16 : G15 o = some (kx (mo_ob q 0 f0 l0 g0)) := by rw [← hE_G15, gw_up_n hne2]; exact hG12
          have hfu : gw_fr (fun b => b = q 2) G10 G15 := by rw [← hE_G15]; exact gw_fr.up rfl
          have hA := hA.use hfu (by rw [← hE_G15]; exact gw_up_s)
          have hfo : gw_fr (fun b => b = o ∨ b = q 2) G G15 := gw_fr.tr (gw_fr.le (X := fun b => b = o) hs11 (fun b h => Or.inl h)) (hfu.le (fun b h => Or.inr h))
          refine lv_aload_n hx hb d_Mo_add_99 rfl (lv_at hl 1 rfl) ?_
          refine gw_get M hK hI hG16 i_Mo rfl 3 (by decide) f_Mo_17 rfl (Pv := fun v => v = .ref (q 3)) (fun x hx => ⟨_, _, hx, rfl, rfl⟩) d_Mo_add_100 (fun v hv => ?_)
          subst hv
          refine lv_iload hx hb d_Mo_add_103 (lv_at hl 0 rfl) ?_
          refine lv_iload_n hx hb d_Mo_add_105 rfl (lv_at hl 2 rfl) ?_
          refine gw_iast M hK hI (hA.2 3 rfl : _ = some (kA D 0 16 tT)) (vp_in_nI (n := 0) (by decide) (by decide)) trivial d_Mo_add_106 (fun H locs hI => ?_)
          refine lv_aload_n hx hb d_Mo_add_107 rfl (lv_at hl 1 rfl) ?_
          refine lv_iload hx hb d_Mo_add_108 (lv_at hl 0 rfl) ?_
          refine lv_lload_n hx hb d_Mo_add_110 rfl (lv_at hl 3 rfl) ?_
          refine lv_lload hx hb d_Mo_add_111 (lv_at hl 4 rfl) ?_
          refine gw_Vv (As := [.int 0, .long kh, .long kl]) (rest := []) M hK hI (c_Mo_spreadKey l tT kh kl o q 0 f0 l0 g0 hG16 hA) k_Mo_spreadKey m_Mo_139 hG16 (ci := 6) rfl (fun x hx => ⟨_, hx⟩) rfl hl.1 rfl (Nat.le_of_ble_eq_true rfl) ⟨rfl, rfl, ⟨Nat.le_of_ble_eq_true rfl, Nat.le_of_ble_eq_true rfl⟩, ⟨Nat.le_of_ble_eq_true rfl, Nat.le_of_ble_eq_true rfl⟩⟩ d_Mo_add_113 (fun G9 H locs hw hI => ?_)
          rw [hw] at hI
          refine lv_aload_n hx hb d_Mo_add_116 rfl (lv_at hl 1 rfl) ?_
          refine gw_get M hK hI hG16 i_Mo rfl 5 (by decide) f_Mo_23 rfl (Pv := fun v => v = .ref (q 5)) (fun x hx => ⟨_, _, hx, rfl, rfl⟩) d_Mo_add_117 (fun v hv => ?_)
          subst hv
          refine lv_iload hx hb d_Mo_add_120 (lv_at hl 0 rfl) ?_
          refine lv_iload hx hb d_Mo_add_122 (lv_at hl 5 rfl) ?_
          refine gw_iast M hK hI (hA.2 5 rfl : _ = some (kA D 0 16 tT)) (vp_in_nI (n := 0) (by decide) (by decide)) trivial d_Mo_add_124 (fun H locs hI => ?_)
          refine lv_aload_n hx hb d_Mo_add_125 rfl (lv_at hl 1 rfl) ?_
          refine gw_get M hK hI hG16 i_Mo rfl 6 (by decide) f_Mo_26 rfl (Pv := fun v => v = .ref (q 6)) (fun x hx => ⟨_, _, hx, rfl, rfl⟩) d_Mo_add_126 (fun v hv => ?_)
          subst hv
          refine lv_iload hx hb d_Mo_add_129 (lv_at hl 0 rfl) ?_
          refine lv_iload hx hb d_Mo_add_131 (lv_at hl 6 rfl) ?_
          refine gw_iast M hK hI (hA.2 6 rfl : _ = some (kA D 0 16 tT)) (vp_in_nI (n := 0) (by decide) (by decide)) trivial d_Mo_add_133 (fun H locs hI => ?_)
          refine lv_aload_n hx hb d_Mo_add_134 rfl (lv_at hl 1 rfl) ?_
          refine gw_get M hK hI hG16 i_Mo rfl 7 (by decide) f_Mo_29 rfl (Pv := fun v => v = .ref (q 7)) (fun x hx => ⟨_, _, hx, rfl, rfl⟩) d_Mo_add_135 (fun v hv => ?_)
          subst hv
          refine lv_iload hx hb d_Mo_add_138 (lv_at hl 0 rfl) ?_
          refine lv_iload hx hb d_Mo_add_140 (lv_at hl 7 rfl) ?_
          refine gw_zast M hK hI (hA.2 7 rfl : _ = some (kA D 2 16 tT)) (vp_in_nI (n := 0) (by decide) (by decide)) trivial d_Mo_add_142 (fun H locs hI => ?_)
          refine lv_aload_n hx hb d_Mo_add_143 rfl (lv_at hl 1 rfl) ?_
          refine gw_get M hK hI hG16 i_Mo rfl 8 (by decide) f_Mo_32 rfl (Pv := fun v => v = .ref (q 8)) (fun x hx => ⟨_, _, hx, rfl, rfl⟩) d_Mo_add_144 (fun v hv => ?_)
          subst hv
          refine lv_iload hx hb d_Mo_add_147 (lv_at hl 0 rfl) ?_
          refine lv_lconst (v := 0) hx hb d_Mo_add_149 (by decide) ?_
          refine gw_last M hK hI (hA.2 8 rfl : _ = some (kL D 16 tU)) (vp_in_nI (n := 0) (by decide) (by decide)) trivial d_Mo_add_150 (fun H locs hI => ?_)
          refine lv_aload_n hx hb d_Mo_add_151 rfl (lv_at hl 1 rfl) ?_
          refine gw_get M hK hI hG16 i_Mo rfl 9 (by decide) f_Mo_36 rfl (Pv := fun v => v = .ref (q 9)) (fun x hx => ⟨_, _, hx, rfl, rfl⟩) d_Mo_add_152 (fun v hv => ?_)
          subst hv
          refine lv_iload hx hb d_Mo_add_155 (lv_at hl 0 rfl) ?_
          refine lv_ldc (v := 1000000000) hx hb M.2.2.2.1 (M.2.2.2.2 _ o_Mo_143) d_Mo_add_157 ?_
          refine gw_iast M hK hI (hA.2 9 rfl : _ = some (kA D 0 16 tT)) (vp_in_nI (n := 0) (by decide) (by decide)) trivial d_Mo_add_159 (fun H locs hI => ?_)
          refine lv_aload_n hx hb d_Mo_add_160 rfl (lv_at hl 1 rfl) ?_
          refine gw_get M hK hI hG16 i_Mo rfl 10 (by decide) f_Mo_39 rfl (Pv := fun v => v = .ref (q 10)) (fun x hx => ⟨_, _, hx, rfl, rfl⟩) d_Mo_add_161 (fun v hv => ?_)
          subst hv
          refine lv_iload hx hb d_Mo_add_164 (lv_at hl 0 rfl) ?_
          refine lv_lconst (v := 0) hx hb d_Mo_add_166 (by decide) ?_
          refine gw_last M hK hI (hA.2 10 rfl : _ = some (kL D 16 tU)) (vp_in_nI (n := 0) (by decide) (by decide)) trivial d_Mo_add_167 (fun H locs hI => ?_)
          refine lv_aload_n hx hb d_Mo_add_168 rfl (lv_at hl 1 rfl) ?_
          refine gw_get M hK hI hG16 i_Mo rfl 11 (by decide) f_Mo_42 rfl (Pv := fun v => v = .ref (q 11)) (fun x hx => ⟨_, _, hx, rfl, rfl⟩) d_Mo_add_169 (fun v hv => ?_)
          subst hv
          refine lv_iload hx hb d_Mo_add_172 (lv_at hl 0 rfl) ?_
          refine lv_lconst (v := 0) hx hb d_Mo_add_174 (by decide) ?_
          refine gw_last M hK hI (hA.2 11 rfl : _ = some (kL D 16 tU)) (vp_in_nI (n := 0) (by decide) (by decide)) trivial d_Mo_add_175 (fun H locs hI => ?_)
          refine lv_aload_n hx hb d_Mo_add_176 rfl (lv_at hl 1 rfl) ?_
          refine gw_get M hK hI hG16 i_Mo rfl 12 (by decide) f_Mo_45 rfl (Pv := fun v => v = .ref (q 12)) (fun x hx => ⟨_, _, hx, rfl, rfl⟩) d_Mo_add_177 (fun v hv => ?_)
          subst hv
          refine lv_iload hx hb d_Mo_add_180 (lv_at hl 0 rfl) ?_
          refine lv_iconst (v := 0) hx hb d_Mo_add_182 (by decide) ?_
          refine gw_iast M hK hI (hA.2 12 rfl : _ = some (kA D 0 16 tT)) (vp_in_nI (n := 0) (by decide) (by decide)) trivial d_Mo_add_183 (fun H locs hI => ?_)
          refine lv_aload_n hx hb d_Mo_add_184 rfl (lv_at hl 1 rfl) ?_
          refine gw_get M hK hI hG16 i_Mo rfl 13 (by decide) f_Mo_48 rfl (Pv := fun v => v = .ref (q 13)) (fun x hx => ⟨_, _, hx, rfl, rfl⟩) d_Mo_add_185 (fun v hv => ?_)
          subst hv
          refine lv_iload hx hb d_Mo_add_188 (lv_at hl 0 rfl) ?_
          refine lv_iconst (v := 0) hx hb d_Mo_add_190 (by decide) ?_
          refine gw_iast M hK hI (hA.2 13 rfl : _ = some (kA D 0 16 tT)) (vp_in_nI (n := 0) (by decide) (by decide)) trivial d_Mo_add_191 (fun H locs hI => ?_)
          refine lv_aload_n hx hb d_Mo_add_192 rfl (lv_at hl 1 rfl) ?_
          refine gw_get M hK hI hG16 i_Mo rfl 15 (by decide) f_Mo_54 rfl (Pv := fun v => v = .ref (q 15)) (fun x hx => ⟨_, _, hx, rfl, rfl⟩) d_Mo_add_193 (fun v hv => ?_)
          subst hv
          refine lv_iload hx hb d_Mo_add_196 (lv_at hl 0 rfl) ?_
          refine lv_iconst (v := 0) hx hb d_Mo_add_198 (by decide) ?_
          refine gw_iast M hK hI (hA.2 15 rfl : _ = some (kA D 0 16 tT)) (vp_in_nI (n := 0) (by decide) (by decide)) trivial d_Mo_add_199 (fun H locs hI => ?_)
          refine lv_iconst (v := 1) hx hb d_Mo_add_200 (by decide) ?_
          exact gw_zret M hr rfl hlo hI d_Mo_add_201 (Or.inr ⟨⟨c_5, c_12, c_20, c_28⟩, rfl, hG16, hfo⟩)
        · have hw1 := c_28
          refine lv_iconst (v := 1) hx hb d_Mo_add_31 (by decide) ?_
          refine lv_goto (tgt := 36) hx hb d_Mo_add_32 (by decide) ?_
          refine gw_put M hK hI hO i_Mo t_Mo tk_Mo n_Mo rfl 0 (by decide) f_Mo_94 rfl rfl rfl (kx (mo_ob q 1 f0 l0 g0)) (fun x hx => ⟨_, hx, Nat.le_of_ble_eq_true rfl, rfl⟩) d_Mo_add_36 (fun H locs hI => ?_)
          obtain ⟨G18, hE_G18⟩ : ∃ z9, gw_up G o (kx (mo_ob q 1 f0 l0 g0)) = z9 := ⟨_, rfl⟩
          rw [hE_G18] at hI
          have hG20 : G18 o = some (kx (mo_ob q 1 f0 l0 g0)) := by rw [← hE_G18]; exact gw_up_s
          have hs19 : gw_fr (fun b => b = o) G G18 := by rw [← hE_G18]; exact gw_fr.up rfl
          have hA := hA.fr hO hs19
          refine lv_aload_n hx hb d_Mo_add_39 rfl (lv_at hl 0 rfl) ?_
          refine gw_get M hK hI hG20 i_Mo rfl 0 (by decide) f_Mo_94 rfl (Pv := fun v => v = .int 1) (fun x hx => ⟨_, _, hx, rfl, rfl⟩) d_Mo_add_40 (fun v hv => ?_)
          subst hv
          refine lv_if_gt (tgt := 54) hx hb d_Mo_add_43 (by decide) (fun c_43 => ?_) (fun q9 => absurd (by decide) q9)
          refine lv_iconst (v := 0) hx hb d_Mo_add_54 (by decide) ?_
          exact gw_zret M hr rfl hlo hI d_Mo_add_55 (Or.inl ⟨Or.inr (fun h => c_28 h.2.2), (by first | rfl | exact hE_G18.symm | (rw [← hE_G18]; simp only [gw_up_up]) | (simp only [← hE_G18, gw_up_up]))⟩)
