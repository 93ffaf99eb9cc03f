def kAs (ci wi : Nat) : va_E → Prop := fun e => ∃ (u2 : Int32) (u3 : Int32) (u4 : Int32) (u5 : Int64) (u6 : Int64) (u7 : Int64) (u8 : Int32) (u9 : Int64) (v1 : Int64) (v2 : Int64), (u4 = 0 ∨ u4 = 1) ∧ e = .inr (0, [.ref ci, .ref wi, .int u2, .int u3, .int u4, .long u5, .long u6, .long u7, .int u8, .long u9, .long v1, .long v2])
def kWi (b0 : Nat) : va_E → Prop := fun e => ∃ (u1 : Int32) (u2 : Int64), e = .inr (4, [.ref b0, .int u1, .long u2])
/-- an association with its cipher and its window -/
def isAs (D : gw_D) (G : gw_G) (b : Nat) : Prop := ∃ ci wo wi bi, G b = some (kAs ci wi) ∧ G ci = some (kCi wo) ∧ G wo = some (kA D 0 44 tT) ∧ G wi = some (kWi bi) ∧ G bi = some (kA D 0 32 tT)
def kRk (D : gw_D) (t n k : Nat) (as : Nat → Nat) : va_E → Prop := fun e => ∃ f : Nat → Option Nat, (∀ j, j < k → f j = some (as j)) ∧ e = .inl (D.2 t, n, .inr (.inr (.inr (.inr f))))
theorem kRk_up {f : Nat → Option Nat} {as : Nat → Nat} {y : Int32} {k q : Nat} (hf : ∀ j, j < k → f j = some (as j)) (hy : y = nI k) (hk : k < 2 ^ 31 := by omega) : ∀ j, j < k + 1 → va_up f y.toNatClampNeg (some q) j = some (va_up as k q j) := by
  intro j hj
  rw [hy, nI_clamp hk]
  by_cases h : j = k
  · subst h; simp [va_up]
  · simp only [va_up, h, if_false]; exact hf j (by omega)
theorem kRk_full {D : gw_D} {t n : Nat} {as : Nat → Nat} : ∀ e, kRk D t n n as e → kR D t n (fun j b => b = as j) e := fun e h => by
  obtain ⟨f, h1, h2⟩ := h
  exact ⟨f, fun j hj => ⟨as j, h1 j hj, rfl⟩, h2⟩
theorem ne_x {G : gw_G} {a b : Nat} {K : va_E → Prop} {x : va_E} (h1 : G a = some (kx x)) (h2 : G b = some K) (hn : ¬ K x) : a ≠ b := gw_ne h1 h2 rfl hn
theorem isAs.mono {D : gw_D} {G G1 : gw_G} {b arr : Nat} {t n k : Nat} {as : Nat → Nat} (h : isAs D G b) (hf : gw_fr (fun q => q = arr) G G1) (ha : G arr = some (kRk D t n k as)) : isAs D G1 b := by
  obtain ⟨ci, wo, wi, bi, h1, h2, h3, h4, h5⟩ := h
  refine ⟨ci, wo, wi, bi, hf _ _ h1 ?_, hf _ _ h2 ?_, hf _ _ h3 ?_, hf _ _ h4 ?_, hf _ _ h5 ?_⟩
  · exact gw_ne (x := .inr (0, [.ref ci, .ref wi, .int 0, .int 0, .int 0, .long 0, .long 0, .long 0, .int 0, .long 0, .long 0, .long 0])) h1 ha ⟨0, 0, 0, 0, 0, 0, 0, 0, 0, 0, Or.inl rfl, rfl⟩ (fun q => by obtain ⟨f, -, q⟩ := q; cases q)
  · exact gw_ne (x := .inr (2, [.ref wo, .long 0, .long 0])) h2 ha ⟨0, 0, rfl⟩ (fun q => by obtain ⟨f, -, q⟩ := q; cases q)
  · exact gw_ne (x := .inl (D.2 0, 44, .inl (fun _ => 0))) h3 ha ⟨_, fun _ _ => trivial, rfl⟩ (fun q => by obtain ⟨f, -, q⟩ := q; have h9 := congrArg (fun z => z.2.2) (Sum.inl.inj q); cases h9)
  · exact gw_ne (x := .inr (4, [.ref bi, .int 0, .long 0])) h4 ha ⟨0, 0, rfl⟩ (fun q => by obtain ⟨f, -, q⟩ := q; cases q)
  · exact gw_ne (x := .inl (D.2 0, 32, .inl (fun _ => 0))) h5 ha ⟨_, fun _ _ => trivial, rfl⟩ (fun q => by obtain ⟨f, -, q⟩ := q; have h9 := congrArg (fun z => z.2.2) (Sum.inl.inj q); cases h9)
theorem isAs.mono0 {D : gw_D} {G G1 : gw_G} {b q : Nat} (h : isAs D G b) (hf : gw_fr (fun z => z = q) G G1) (hq : G q = none) : isAs D G1 b := by
  obtain ⟨ci, wo, wi, bi, h1, h2, h3, h4, h5⟩ := h
  have hn : ∀ {x : Nat} {K : va_E → Prop}, G x = some K → ¬ x = q := fun h e => by rw [e, hq] at h; cases h
  exact ⟨ci, wo, wi, bi, hf _ _ h1 (hn h1), hf _ _ h2 (hn h2), hf _ _ h3 (hn h3), hf _ _ h4 (hn h4), hf _ _ h5 (hn h5)⟩

abbrev rm_As_init : Room := { frames := 2, cells := 4, slots := 82, locals := 40 }
set_option maxHeartbeats 4000000 in
set_option maxRecDepth 100000 in
theorem c_As_init (l : Launch) {D : gw_D} {Hs : Heap} {G : gw_G} (a : Nat) (hR : G a = some (kx (.inr (0, [.null, .null, .int 0, .int 0, .int 0, .long 0, .long 0, .long 0, .int 0, .long 0, .long 0, .long 0])))) : Met l y_As_init (Cond.code y_As_init b_As_init 1 none :: tb) rm_As_init (gw_Pc D Hs G [.ref a]) (gw_Qv D Hs (fun G1 => ∃ ci wo wi bi, G ci = none ∧ G wo = none ∧ G wi = none ∧ G bi = none ∧ G1 a = some (kx (.inr (0, [.ref ci, .ref wi, .int 0, .int 0, .int 0, .long 0, .long 0, .long 0, .int 0, .long 0, .long 0, .long 0]))) ∧ G1 ci = some (kx (.inr (2, [.ref wo, .long 0, .long 0]))) ∧ G1 wo = some (kA D 0 44 tT) ∧ G1 wi = some (kx (.inr (4, [.ref bi, .int 1024, .long 0]))) ∧ G1 bi = some (kA D 0 32 tT) ∧ gw_fr (fun b => b = a) G G1)) 4 82 (gw_A Hs) := by
  refine gw_met (by decide) (Nat.le_of_ble_eq_true rfl) ?_
  intro p e s m args below meth c M hK hr hlo hin hI ls hl
  have hx := M.1
  have hb := M.2.1
  have hl : lv_has ls 1 [(0, .ref a)] := hl
  have hf0 : gw_fr (fun b => b = a) G G := gw_fr.rf
  refine lv_aload_n hx hb d_As_init_0 rfl (lv_at hl 0 rfl) ?_
  refine W.objInit hx hb M.2.2.2.1 (M.2.2.2.2 _ m_As_1) (M.2.2.2.2 _ oi_1) (M.2.2.2.2 _ oi_2) rfl (by rw [M.2.2.1]; exact hl.1) rfl d_As_init_1 (Nat.le_of_ble_eq_true rfl) (Nat.le_of_ble_eq_true rfl) ?_
  refine W.eq (g2 := F0 m 4 ls []) rfl ?_
  refine lv_aload_n hx hb d_As_init_4 rfl (lv_at hl 0 rfl) ?_
  refine gw_new M hK hI (ci := 2) (fs := [.null, .long 0, .long 0]) i_Ci t_Ci tk_Ci q_As_7 j_Ci z_Ci rfl (fun j hj => by rcases (show j = 0 ∨ j = 1 ∨ j = 2 by omega) with rfl | rfl | rfl <;> rfl) (Nat.le_of_ble_eq_true rfl) (Nat.le_of_ble_eq_true rfl) d_As_init_5 (fun q1 H hz2 hI => ?_)
  generalize hE_G3 : gw_up G q1 (kx (.inr (2, [.null, .long 0, .long 0]))) = G3 at hI
  have hG4 : G3 q1 = some (kx (.inr (2, [.null, .long 0, .long 0]))) := by rw [← hE_G3]; exact gw_up_s
  have hn6 : a ≠ q1 := fun q9 => by have h9 := hR; rw [q9, hz2] at h9; cases h9
  have hG5 : G3 a = some (kx (.inr (0, [.null, .null, .int 0, .int 0, .int 0, .long 0, .long 0, .long 0, .int 0, .long 0, .long 0, .long 0]))) := by rw [← hE_G3, gw_up_n hn6]; exact hR
  have hy7 : G q1 = none := by
    cases h9 : G q1 with
    | none => rfl
    | some K9 => exact absurd (hf0 q1 K9 h9 (fun e9 => hn6 e9.symm)) (by rw [hz2]; exact fun h => by cases h)
  have hf8 : gw_fr (fun b => b = a) G G3 := gw_fr.tr hf0 (by rw [← hE_G3]; exact gw_fr.new hz2)
  refine lv_dup hx hb d_As_init_8 rfl ?_
  refine gw_Nv (As := []) (rest := [.ref q1, .ref a]) M hK hI (c_Ci_init l q1 hG4) k_Ci_init hK.2.2.2.2.2.1 rfl hl.1 rfl (Nat.le_of_ble_eq_true rfl) ⟨rfl, rfl, ⟨Nat.le_of_ble_eq_true rfl, Nat.le_of_ble_eq_true rfl⟩, ⟨Nat.le_of_ble_eq_true rfl, Nat.le_of_ble_eq_true rfl⟩⟩ d_As_init_9 (fun G14 H locs hw hI => ?_)
  obtain ⟨q9, hz10, hG11, hG12, hfc13⟩ := hw
  have hn15 : a ≠ q9 := fun q9 => by have h9 := hG5; rw [q9, hz10] at h9; cases h9
  have hn16 : q1 ≠ q9 := fun q9 => by have h9 := hG4; rw [q9, hz10] at h9; cases h9
  have hG17 : G14 a = some (kx (.inr (0, [.null, .null, .int 0, .int 0, .int 0, .long 0, .long 0, .long 0, .int 0, .long 0, .long 0, .long 0]))) := hfc13 a _ hG5 hn6
  have hy18 : G q9 = none := by
    cases h9 : G q9 with
    | none => rfl
    | some K9 => exact absurd (hf8 q9 K9 h9 (fun e9 => hn15 e9.symm)) (by rw [hz10]; exact fun h => by cases h)
  have hf19 : gw_fr (fun b => b = a) G G14 := gw_fr.fresh hf8 hy7 hfc13
  refine gw_putF M hK hI hG17 i_As t_As tk_As n_As rfl 0 (by decide) f_As_10 rfl hin rfl rfl (kx (.inr (0, [.ref q1, .null, .int 0, .int 0, .int 0, .long 0, .long 0, .long 0, .int 0, .long 0, .long 0, .long 0]))) (fun x hx => ⟨_, hx, Nat.le_of_ble_eq_true rfl, rfl⟩) d_As_init_12 (fun H locs hI => ?_)
  generalize hE_G20 : gw_up G14 a (kx (.inr (0, [.ref q1, .null, .int 0, .int 0, .int 0, .long 0, .long 0, .long 0, .int 0, .long 0, .long 0, .long 0]))) = G20 at hI
  have hG21 : G20 a = some (kx (.inr (0, [.ref q1, .null, .int 0, .int 0, .int 0, .long 0, .long 0, .long 0, .int 0, .long 0, .long 0, .long 0]))) := by rw [← hE_G20]; exact gw_up_s
  have hG22 : G20 q1 = some (kx (.inr (2, [.ref q9, .long 0, .long 0]))) := by rw [← hE_G20, gw_up_n hn6.symm]; exact hG11
  have hG23 : G20 q9 = some (kA D 0 44 tT) := by rw [← hE_G20, gw_up_n hn15.symm]; exact hG12
  have hf24 : gw_fr (fun b => b = a) G G20 := gw_fr.tr hf19 (by rw [← hE_G20]; exact gw_fr.up rfl)
  refine lv_aload_n hx hb d_As_init_15 rfl (lv_at hl 0 rfl) ?_
  refine gw_new M hK hI (ci := 4) (fs := [.null, .int 0, .long 0]) i_Wi t_Wi tk_Wi q_As_16 j_Wi z_Wi rfl (fun j hj => by rcases (show j = 0 ∨ j = 1 ∨ j = 2 by omega) with rfl | rfl | rfl <;> rfl) (Nat.le_of_ble_eq_true rfl) (Nat.le_of_ble_eq_true rfl) d_As_init_16 (fun q25 H hz26 hI => ?_)
  generalize hE_G27 : gw_up G20 q25 (kx (.inr (4, [.null, .int 0, .long 0]))) = G27 at hI
  have hG28 : G27 q25 = some (kx (.inr (4, [.null, .int 0, .long 0]))) := by rw [← hE_G27]; exact gw_up_s
  have hn30 : a ≠ q25 := fun q9 => by have h9 := hG21; rw [q9, hz26] at h9; cases h9
  have hG29 : G27 a = some (kx (.inr (0, [.ref q1, .null, .int 0, .int 0, .int 0, .long 0, .long 0, .long 0, .int 0, .long 0, .long 0, .long 0]))) := by rw [← hE_G27, gw_up_n hn30]; exact hG21
  have hn32 : q1 ≠ q25 := fun q9 => by have h9 := hG22; rw [q9, hz26] at h9; cases h9
  have hG31 : G27 q1 = some (kx (.inr (2, [.ref q9, .long 0, .long 0]))) := by rw [← hE_G27, gw_up_n hn32]; exact hG22
  have hn34 : q9 ≠ q25 := fun q9 => by have h9 := hG23; rw [q9, hz26] at h9; cases h9
  have hG33 : G27 q9 = some (kA D 0 44 tT) := by rw [← hE_G27, gw_up_n hn34]; exact hG23
  have hy35 : G q25 = none := by
    cases h9 : G q25 with
    | none => rfl
    | some K9 => exact absurd (hf24 q25 K9 h9 (fun e9 => hn30 e9.symm)) (by rw [hz26]; exact fun h => by cases h)
  have hf36 : gw_fr (fun b => b = a) G G27 := gw_fr.tr hf24 (by rw [← hE_G27]; exact gw_fr.new hz26)
  refine lv_dup hx hb d_As_init_19 rfl ?_
  refine gw_Nv (As := []) (rest := [.ref q25, .ref a]) M hK hI (c_Wi_init l q25 hG28) k_Wi_init hK.2.2.2.2.2.2.1 rfl hl.1 rfl (Nat.le_of_ble_eq_true rfl) ⟨rfl, rfl, ⟨Nat.le_of_ble_eq_true rfl, Nat.le_of_ble_eq_true rfl⟩, ⟨Nat.le_of_ble_eq_true rfl, Nat.le_of_ble_eq_true rfl⟩⟩ d_As_init_20 (fun G42 H locs hw hI => ?_)
  obtain ⟨q37, hz38, hG39, hG40, hfc41⟩ := hw
  have hn43 : a ≠ q37 := fun q9 => by have h9 := hG29; rw [q9, hz38] at h9; cases h9
  have hn44 : q1 ≠ q37 := fun q9 => by have h9 := hG31; rw [q9, hz38] at h9; cases h9
  have hn45 : q9 ≠ q37 := fun q9 => by have h9 := hG33; rw [q9, hz38] at h9; cases h9
  have hn46 : q25 ≠ q37 := fun q9 => by have h9 := hG28; rw [q9, hz38] at h9; cases h9
  have hG47 : G42 a = some (kx (.inr (0, [.ref q1, .null, .int 0, .int 0, .int 0, .long 0, .long 0, .long 0, .int 0, .long 0, .long 0, .long 0]))) := hfc41 a _ hG29 hn30
  have hG48 : G42 q1 = some (kx (.inr (2, [.ref q9, .long 0, .long 0]))) := hfc41 q1 _ hG31 hn32
  have hG49 : G42 q9 = some (kA D 0 44 tT) := hfc41 q9 _ hG33 hn34
  have hy50 : G q37 = none := by
    cases h9 : G q37 with
    | none => rfl
    | some K9 => exact absurd (hf36 q37 K9 h9 (fun e9 => hn43 e9.symm)) (by rw [hz38]; exact fun h => by cases h)
  have hf51 : gw_fr (fun b => b = a) G G42 := gw_fr.fresh hf36 hy35 hfc41
  refine gw_putF M hK hI hG47 i_As t_As tk_As n_As rfl 1 (by decide) f_As_19 rfl hin rfl rfl (kx (.inr (0, [.ref q1, .ref q25, .int 0, .int 0, .int 0, .long 0, .long 0, .long 0, .int 0, .long 0, .long 0, .long 0]))) (fun x hx => ⟨_, hx, Nat.le_of_ble_eq_true rfl, rfl⟩) d_As_init_23 (fun H locs hI => ?_)
  generalize hE_G52 : gw_up G42 a (kx (.inr (0, [.ref q1, .ref q25, .int 0, .int 0, .int 0, .long 0, .long 0, .long 0, .int 0, .long 0, .long 0, .long 0]))) = G52 at hI
  have hG53 : G52 a = some (kx (.inr (0, [.ref q1, .ref q25, .int 0, .int 0, .int 0, .long 0, .long 0, .long 0, .int 0, .long 0, .long 0, .long 0]))) := by rw [← hE_G52]; exact gw_up_s
  have hG54 : G52 q1 = some (kx (.inr (2, [.ref q9, .long 0, .long 0]))) := by rw [← hE_G52, gw_up_n hn6.symm]; exact hG48
  have hG55 : G52 q9 = some (kA D 0 44 tT) := by rw [← hE_G52, gw_up_n hn15.symm]; exact hG49
  have hG56 : G52 q25 = some (kx (.inr (4, [.ref q37, .int 1024, .long 0]))) := by rw [← hE_G52, gw_up_n hn30.symm]; exact hG39
  have hG57 : G52 q37 = some (kA D 0 32 tT) := by rw [← hE_G52, gw_up_n hn43.symm]; exact hG40
  have hf58 : gw_fr (fun b => b = a) G G52 := gw_fr.tr hf51 (by rw [← hE_G52]; exact gw_fr.up rfl)
  refine lv_aload_n hx hb d_As_init_26 rfl (lv_at hl 0 rfl) ?_
  refine lv_iconst (v := 0) hx hb d_As_init_27 (by decide) ?_
  refine gw_put M hK hI hG53 i_As t_As tk_As n_As rfl 2 (by decide) f_As_23 rfl rfl rfl (kx (.inr (0, [.ref q1, .ref q25, .int 0, .int 0, .int 0, .long 0, .long 0, .long 0, .int 0, .long 0, .long 0, .long 0]))) (fun x hx => ⟨_, hx, Nat.le_of_ble_eq_true rfl, rfl⟩) d_As_init_28 (fun H locs hI => ?_)
  generalize hE_G59 : gw_up G52 a (kx (.inr (0, [.ref q1, .ref q25, .int 0, .int 0, .int 0, .long 0, .long 0, .long 0, .int 0, .long 0, .long 0, .long 0]))) = G59 at hI
  have hG60 : G59 a = some (kx (.inr (0, [.ref q1, .ref q25, .int 0, .int 0, .int 0, .long 0, .long 0, .long 0, .int 0, .long 0, .long 0, .long 0]))) := by rw [← hE_G59]; exact gw_up_s
  have hG61 : G59 q1 = some (kx (.inr (2, [.ref q9, .long 0, .long 0]))) := by rw [← hE_G59, gw_up_n hn6.symm]; exact hG54
  have hG62 : G59 q9 = some (kA D 0 44 tT) := by rw [← hE_G59, gw_up_n hn15.symm]; exact hG55
  have hG63 : G59 q25 = some (kx (.inr (4, [.ref q37, .int 1024, .long 0]))) := by rw [← hE_G59, gw_up_n hn30.symm]; exact hG56
  have hG64 : G59 q37 = some (kA D 0 32 tT) := by rw [← hE_G59, gw_up_n hn43.symm]; exact hG57
  have hf65 : gw_fr (fun b => b = a) G G59 := gw_fr.tr hf58 (by rw [← hE_G59]; exact gw_fr.up rfl)
  refine lv_aload_n hx hb d_As_init_31 rfl (lv_at hl 0 rfl) ?_
  refine lv_iconst (v := 0) hx hb d_As_init_32 (by decide) ?_
  refine gw_put M hK hI hG60 i_As t_As tk_As n_As rfl 3 (by decide) f_As_27 rfl rfl rfl (kx (.inr (0, [.ref q1, .ref q25, .int 0, .int 0, .int 0, .long 0, .long 0, .long 0, .int 0, .long 0, .long 0, .long 0]))) (fun x hx => ⟨_, hx, Nat.le_of_ble_eq_true rfl, rfl⟩) d_As_init_33 (fun H locs hI => ?_)
  generalize hE_G66 : gw_up G59 a (kx (.inr (0, [.ref q1, .ref q25, .int 0, .int 0, .int 0, .long 0, .long 0, .long 0, .int 0, .long 0, .long 0, .long 0]))) = G66 at hI
  have hG67 : G66 a = some (kx (.inr (0, [.ref q1, .ref q25, .int 0, .int 0, .int 0, .long 0, .long 0, .long 0, .int 0, .long 0, .long 0, .long 0]))) := by rw [← hE_G66]; exact gw_up_s
  have hG68 : G66 q1 = some (kx (.inr (2, [.ref q9, .long 0, .long 0]))) := by rw [← hE_G66, gw_up_n hn6.symm]; exact hG61
  have hG69 : G66 q9 = some (kA D 0 44 tT) := by rw [← hE_G66, gw_up_n hn15.symm]; exact hG62
  have hG70 : G66 q25 = some (kx (.inr (4, [.ref q37, .int 1024, .long 0]))) := by rw [← hE_G66, gw_up_n hn30.symm]; exact hG63
  have hG71 : G66 q37 = some (kA D 0 32 tT) := by rw [← hE_G66, gw_up_n hn43.symm]; exact hG64
  have hf72 : gw_fr (fun b => b = a) G G66 := gw_fr.tr hf65 (by rw [← hE_G66]; exact gw_fr.up rfl)
  refine lv_aload_n hx hb d_As_init_36 rfl (lv_at hl 0 rfl) ?_
  refine lv_iconst (v := 0) hx hb d_As_init_37 (by decide) ?_
  refine gw_put M hK hI hG67 i_As t_As tk_As n_As rfl 4 (by decide) f_As_30 rfl rfl rfl (kx (.inr (0, [.ref q1, .ref q25, .int 0, .int 0, .int 0, .long 0, .long 0, .long 0, .int 0, .long 0, .long 0, .long 0]))) (fun x hx => ⟨_, hx, Nat.le_of_ble_eq_true rfl, rfl⟩) d_As_init_38 (fun H locs hI => ?_)
  generalize hE_G73 : gw_up G66 a (kx (.inr (0, [.ref q1, .ref q25, .int 0, .int 0, .int 0, .long 0, .long 0, .long 0, .int 0, .long 0, .long 0, .long 0]))) = G73 at hI
  have hG74 : G73 a = some (kx (.inr (0, [.ref q1, .ref q25, .int 0, .int 0, .int 0, .long 0, .long 0, .long 0, .int 0, .long 0, .long 0, .long 0]))) := by rw [← hE_G73]; exact gw_up_s
  have hG75 : G73 q1 = some (kx (.inr (2, [.ref q9, .long 0, .long 0]))) := by rw [← hE_G73, gw_up_n hn6.symm]; exact hG68
  have hG76 : G73 q9 = some (kA D 0 44 tT) := by rw [← hE_G73, gw_up_n hn15.symm]; exact hG69
  have hG77 : G73 q25 = some (kx (.inr (4, [.ref q37, .int 1024, .long 0]))) := by rw [← hE_G73, gw_up_n hn30.symm]; exact hG70
  have hG78 : G73 q37 = some (kA D 0 32 tT) := by rw [← hE_G73, gw_up_n hn43.symm]; exact hG71
  have hf79 : gw_fr (fun b => b = a) G G73 := gw_fr.tr hf72 (by rw [← hE_G73]; exact gw_fr.up rfl)
  refine lv_aload_n hx hb d_As_init_41 rfl (lv_at hl 0 rfl) ?_
  refine lv_lconst (v := 0) hx hb d_As_init_42 (by decide) ?_
  refine gw_put M hK hI hG74 i_As t_As tk_As n_As rfl 5 (by decide) f_As_34 rfl rfl rfl (kx (.inr (0, [.ref q1, .ref q25, .int 0, .int 0, .int 0, .long 0, .long 0, .long 0, .int 0, .long 0, .long 0, .long 0]))) (fun x hx => ⟨_, hx, Nat.le_of_ble_eq_true rfl, rfl⟩) d_As_init_43 (fun H locs hI => ?_)
  generalize hE_G80 : gw_up G73 a (kx (.inr (0, [.ref q1, .ref q25, .int 0, .int 0, .int 0, .long 0, .long 0, .long 0, .int 0, .long 0, .long 0, .long 0]))) = G80 at hI
  have hG81 : G80 a = some (kx (.inr (0, [.ref q1, .ref q25, .int 0, .int 0, .int 0, .long 0, .long 0, .long 0, .int 0, .long 0, .long 0, .long 0]))) := by rw [← hE_G80]; exact gw_up_s
  have hG82 : G80 q1 = some (kx (.inr (2, [.ref q9, .long 0, .long 0]))) := by rw [← hE_G80, gw_up_n hn6.symm]; exact hG75
  have hG83 : G80 q9 = some (kA D 0 44 tT) := by rw [← hE_G80, gw_up_n hn15.symm]; exact hG76
  have hG84 : G80 q25 = some (kx (.inr (4, [.ref q37, .int 1024, .long 0]))) := by rw [← hE_G80, gw_up_n hn30.symm]; exact hG77
  have hG85 : G80 q37 = some (kA D 0 32 tT) := by rw [← hE_G80, gw_up_n hn43.symm]; exact hG78
  have hf86 : gw_fr (fun b => b = a) G G80 := gw_fr.tr hf79 (by rw [← hE_G80]; exact gw_fr.up rfl)
  refine lv_aload_n hx hb d_As_init_46 rfl (lv_at hl 0 rfl) ?_
  refine lv_lconst (v := 0) hx hb d_As_init_47 (by decide) ?_
  refine gw_put M hK hI hG81 i_As t_As tk_As n_As rfl 6 (by decide) f_As_38 rfl rfl rfl (kx (.inr (0, [.ref q1, .ref q25, .int 0, .int 0, .int 0, .long 0, .long 0, .long 0, .int 0, .long 0, .long 0, .long 0]))) (fun x hx => ⟨_, hx, Nat.le_of_ble_eq_true rfl, rfl⟩) d_As_init_48 (fun H locs hI => ?_)
  generalize hE_G87 : gw_up G80 a (kx (.inr (0, [.ref q1, .ref q25, .int 0, .int 0, .int 0, .long 0, .long 0, .long 0, .int 0, .long 0, .long 0, .long 0]))) = G87 at hI
  have hG88 : G87 a = some (kx (.inr (0, [.ref q1, .ref q25, .int 0, .int 0, .int 0, .long 0, .long 0, .long 0, .int 0, .long 0, .long 0, .long 0]))) := by rw [← hE_G87]; exact gw_up_s
  have hG89 : G87 q1 = some (kx (.inr (2, [.ref q9, .long 0, .long 0]))) := by rw [← hE_G87, gw_up_n hn6.symm]; exact hG82
  have hG90 : G87 q9 = some (kA D 0 44 tT) := by rw [← hE_G87, gw_up_n hn15.symm]; exact hG83
  have hG91 : G87 q25 = some (kx (.inr (4, [.ref q37, .int 1024, .long 0]))) := by rw [← hE_G87, gw_up_n hn30.symm]; exact hG84
  have hG92 : G87 q37 = some (kA D 0 32 tT) := by rw [← hE_G87, gw_up_n hn43.symm]; exact hG85
  have hf93 : gw_fr (fun b => b = a) G G87 := gw_fr.tr hf86 (by rw [← hE_G87]; exact gw_fr.up rfl)
  refine lv_aload_n hx hb d_As_init_51 rfl (lv_at hl 0 rfl) ?_
  refine lv_lconst (v := 0) hx hb d_As_init_52 (by decide) ?_
  refine gw_put M hK hI hG88 i_As t_As tk_As n_As rfl 7 (by decide) f_As_41 rfl rfl rfl (kx (.inr (0, [.ref q1, .ref q25, .int 0, .int 0, .int 0, .long 0, .long 0, .long 0, .int 0, .long 0, .long 0, .long 0]))) (fun x hx => ⟨_, hx, Nat.le_of_ble_eq_true rfl, rfl⟩) d_As_init_53 (fun H locs hI => ?_)
  generalize hE_G94 : gw_up G87 a (kx (.inr (0, [.ref q1, .ref q25, .int 0, .int 0, .int 0, .long 0, .long 0, .long 0, .int 0, .long 0, .long 0, .long 0]))) = G94 at hI
  have hG95 : G94 a = some (kx (.inr (0, [.ref q1, .ref q25, .int 0, .int 0, .int 0, .long 0, .long 0, .long 0, .int 0, .long 0, .long 0, .long 0]))) := by rw [← hE_G94]; exact gw_up_s
  have hG96 : G94 q1 = some (kx (.inr (2, [.ref q9, .long 0, .long 0]))) := by rw [← hE_G94, gw_up_n hn6.symm]; exact hG89
  have hG97 : G94 q9 = some (kA D 0 44 tT) := by rw [← hE_G94, gw_up_n hn15.symm]; exact hG90
  have hG98 : G94 q25 = some (kx (.inr (4, [.ref q37, .int 1024, .long 0]))) := by rw [← hE_G94, gw_up_n hn30.symm]; exact hG91
  have hG99 : G94 q37 = some (kA D 0 32 tT) := by rw [← hE_G94, gw_up_n hn43.symm]; exact hG92
  have hf100 : gw_fr (fun b => b = a) G G94 := gw_fr.tr hf93 (by rw [← hE_G94]; exact gw_fr.up rfl)
  refine lv_aload_n hx hb d_As_init_56 rfl (lv_at hl 0 rfl) ?_
  refine lv_iconst (v := 0) hx hb d_As_init_57 (by decide) ?_
  refine gw_put M hK hI hG95 i_As t_As tk_As n_As rfl 8 (by decide) f_As_44 rfl rfl rfl (kx (.inr (0, [.ref q1, .ref q25, .int 0, .int 0, .int 0, .long 0, .long 0, .long 0, .int 0, .long 0, .long 0, .long 0]))) (fun x hx => ⟨_, hx, Nat.le_of_ble_eq_true rfl, rfl⟩) d_As_init_58 (fun H locs hI => ?_)
  generalize hE_G101 : gw_up G94 a (kx (.inr (0, [.ref q1, .ref q25, .int 0, .int 0, .int 0, .long 0, .long 0, .long 0, .int 0, .long 0, .long 0, .long 0]))) = G101 at hI
  have hG102 : G101 a = some (kx (.inr (0, [.ref q1, .ref q25, .int 0, .int 0, .int 0, .long 0, .long 0, .long 0, .int 0, .long 0, .long 0, .long 0]))) := by rw [← hE_G101]; exact gw_up_s
  have hG103 : G101 q1 = some (kx (.inr (2, [.ref q9, .long 0, .long 0]))) := by rw [← hE_G101, gw_up_n hn6.symm]; exact hG96
  have hG104 : G101 q9 = some (kA D 0 44 tT) := by rw [← hE_G101, gw_up_n hn15.symm]; exact hG97
  have hG105 : G101 q25 = some (kx (.inr (4, [.ref q37, .int 1024, .long 0]))) := by rw [← hE_G101, gw_up_n hn30.symm]; exact hG98
  have hG106 : G101 q37 = some (kA D 0 32 tT) := by rw [← hE_G101, gw_up_n hn43.symm]; exact hG99
  have hf107 : gw_fr (fun b => b = a) G G101 := gw_fr.tr hf100 (by rw [← hE_G101]; exact gw_fr.up rfl)
  refine lv_aload_n hx hb d_As_init_61 rfl (lv_at hl 0 rfl) ?_
  refine lv_lconst (v := 0) hx hb d_As_init_62 (by decide) ?_
  refine gw_put M hK hI hG102 i_As t_As tk_As n_As rfl 9 (by decide) f_As_47 rfl rfl rfl (kx (.inr (0, [.ref q1, .ref q25, .int 0, .int 0, .int 0, .long 0, .long 0, .long 0, .int 0, .long 0, .long 0, .long 0]))) (fun x hx => ⟨_, hx, Nat.le_of_ble_eq_true rfl, rfl⟩) d_As_init_63 (fun H locs hI => ?_)
  generalize hE_G108 : gw_up G101 a (kx (.inr (0, [.ref q1, .ref q25, .int 0, .int 0, .int 0, .long 0, .long 0, .long 0, .int 0, .long 0, .long 0, .long 0]))) = G108 at hI
  have hG109 : G108 a = some (kx (.inr (0, [.ref q1, .ref q25, .int 0, .int 0, .int 0, .long 0, .long 0, .long 0, .int 0, .long 0, .long 0, .long 0]))) := by rw [← hE_G108]; exact gw_up_s
  have hG110 : G108 q1 = some (kx (.inr (2, [.ref q9, .long 0, .long 0]))) := by rw [← hE_G108, gw_up_n hn6.symm]; exact hG103
  have hG111 : G108 q9 = some (kA D 0 44 tT) := by rw [← hE_G108, gw_up_n hn15.symm]; exact hG104
  have hG112 : G108 q25 = some (kx (.inr (4, [.ref q37, .int 1024, .long 0]))) := by rw [← hE_G108, gw_up_n hn30.symm]; exact hG105
  have hG113 : G108 q37 = some (kA D 0 32 tT) := by rw [← hE_G108, gw_up_n hn43.symm]; exact hG106
  have hf114 : gw_fr (fun b => b = a) G G108 := gw_fr.tr hf107 (by rw [← hE_G108]; exact gw_fr.up rfl)
  refine lv_aload_n hx hb d_As_init_66 rfl (lv_at hl 0 rfl) ?_
  refine lv_lconst (v := 0) hx hb d_As_init_67 (by decide) ?_
  refine gw_put M hK hI hG109 i_As t_As tk_As n_As rfl 10 (by decide) f_As_50 rfl rfl rfl (kx (.inr (0, [.ref q1, .ref q25, .int 0, .int 0, .int 0, .long 0, .long 0, .long 0, .int 0, .long 0, .long 0, .long 0]))) (fun x hx => ⟨_, hx, Nat.le_of_ble_eq_true rfl, rfl⟩) d_As_init_68 (fun H locs hI => ?_)
  generalize hE_G115 : gw_up G108 a (kx (.inr (0, [.ref q1, .ref q25, .int 0, .int 0, .int 0, .long 0, .long 0, .long 0, .int 0, .long 0, .long 0, .long 0]))) = G115 at hI
  have hG116 : G115 a = some (kx (.inr (0, [.ref q1, .ref q25, .int 0, .int 0, .int 0, .long 0, .long 0, .long 0, .int 0, .long 0, .long 0, .long 0]))) := by rw [← hE_G115]; exact gw_up_s
  have hG117 : G115 q1 = some (kx (.inr (2, [.ref q9, .long 0, .long 0]))) := by rw [← hE_G115, gw_up_n hn6.symm]; exact hG110
  have hG118 : G115 q9 = some (kA D 0 44 tT) := by rw [← hE_G115, gw_up_n hn15.symm]; exact hG111
  have hG119 : G115 q25 = some (kx (.inr (4, [.ref q37, .int 1024, .long 0]))) := by rw [← hE_G115, gw_up_n hn30.symm]; exact hG112
  have hG120 : G115 q37 = some (kA D 0 32 tT) := by rw [← hE_G115, gw_up_n hn43.symm]; exact hG113
  have hf121 : gw_fr (fun b => b = a) G G115 := gw_fr.tr hf114 (by rw [← hE_G115]; exact gw_fr.up rfl)
  refine lv_aload_n hx hb d_As_init_71 rfl (lv_at hl 0 rfl) ?_
  refine lv_lconst (v := 0) hx hb d_As_init_72 (by decide) ?_
  refine gw_put M hK hI hG116 i_As t_As tk_As n_As rfl 11 (by decide) f_As_53 rfl rfl rfl (kx (.inr (0, [.ref q1, .ref q25, .int 0, .int 0, .int 0, .long 0, .long 0, .long 0, .int 0, .long 0, .long 0, .long 0]))) (fun x hx => ⟨_, hx, Nat.le_of_ble_eq_true rfl, rfl⟩) d_As_init_73 (fun H locs hI => ?_)
  generalize hE_G122 : gw_up G115 a (kx (.inr (0, [.ref q1, .ref q25, .int 0, .int 0, .int 0, .long 0, .long 0, .long 0, .int 0, .long 0, .long 0, .long 0]))) = G122 at hI
  have hG123 : G122 a = some (kx (.inr (0, [.ref q1, .ref q25, .int 0, .int 0, .int 0, .long 0, .long 0, .long 0, .int 0, .long 0, .long 0, .long 0]))) := by rw [← hE_G122]; exact gw_up_s
  have hG124 : G122 q1 = some (kx (.inr (2, [.ref q9, .long 0, .long 0]))) := by rw [← hE_G122, gw_up_n hn6.symm]; exact hG117
  have hG125 : G122 q9 = some (kA D 0 44 tT) := by rw [← hE_G122, gw_up_n hn15.symm]; exact hG118
  have hG126 : G122 q25 = some (kx (.inr (4, [.ref q37, .int 1024, .long 0]))) := by rw [← hE_G122, gw_up_n hn30.symm]; exact hG119
  have hG127 : G122 q37 = some (kA D 0 32 tT) := by rw [← hE_G122, gw_up_n hn43.symm]; exact hG120
  have hf128 : gw_fr (fun b => b = a) G G122 := gw_fr.tr hf121 (by rw [← hE_G122]; exact gw_fr.up rfl)
  exact gw_vret M hr hlo hI d_As_init_76 (⟨q1, q9, q25, q37, hy7, hy18, hy35, hy50, hG123, hG124, hG125, hG126, hG127, hf128⟩)

abbrev rm_Wi_begin : Room := { frames := 0, cells := 0, slots := 0, locals := 0 }
set_option maxHeartbeats 4000000 in
set_option maxRecDepth 100000 in
theorem c_Wi_begin (l : Launch) {D : gw_D} {Hs : Heap} {G : gw_G} (a bi : Nat) (n0 : Int32) (hA : G a = some (kWi bi)) (hB : G bi = some (kA D 0 32 tT)) : Met l y_Wi_begin (Cond.code y_Wi_begin b_Wi_begin 3 none :: tb) rm_Wi_begin (gw_Pc D Hs G [.ref a, .int n0]) (gw_Qv D Hs (fun G1 => G1 = G)) 0 0 (gw_A Hs) := by
  refine gw_met (by decide) (Nat.le_of_ble_eq_true rfl) ?_
  intro p e s m args below meth c M hK hr hlo hin hI ls hl
  have hx := M.1
  have hb := M.2.1
  have hl : lv_has ls 3 [(0, .ref a), (1, .int n0)] := hl
  refine lv_iconst (v := 0) hx hb d_Wi_begin_0 (by decide) ?_
  refine lv_istore_n (lv' := [(2, .int 0), (0, .ref a), (1, .int n0)]) hx hb d_Wi_begin_1 rfl hl (by decide) rfl (fun ls hl => ?_)
  have L_2 : ∀ (n9 : Nat) (k : Nat) (y2 : Int32) (H : Heap) (locs : List Loc) (ls : Array Slot), k ≤ 32 → y2 = nI k → 32 - k < n9 → gw_I D Hs G s.heap H locs → lv_has ls 3 [(2, .int y2), (0, .ref a), (1, .int n0)] → W p l e rm_Wi_begin s m args below meth c H locs 0 0 (MQ below (gw_Qv D Hs (fun G1 => G1 = G)) args s 0 0 (gw_A Hs)) (F0 m 2 ls []) := by
    intro n9
    induction n9 with
    | zero =>
      intro k y2 H locs ls h32 hk hm hI hl
      exact absurd hm (Nat.not_lt_zero _)
    | succ n9 ih_2 =>
      intro k y2 H locs ls h32 hk hm hI hl
      refine lv_iload_n hx hb d_Wi_begin_2 rfl (lv_at hl 0 rfl) ?_
      refine lv_aload_n hx hb d_Wi_begin_3 rfl (lv_at hl 1 rfl) ?_
      refine gw_get M hK hI hA i_Wi rfl 0 (by decide) f_Wi_9 rfl (Pv := fun v => v = .ref bi) (fun x hx => by obtain ⟨u1, u2, q9⟩ := hx; exact ⟨_, _, q9, rfl, rfl⟩) d_Wi_begin_4 (fun v hv => ?_)
      subst hv
      refine gw_alen M hK hI hB 0 32 rfl (fun x hx => by obtain ⟨f9, h9, q9⟩ := hx; exact ⟨_, q9⟩) d_Wi_begin_7 ?_
      refine lv_icmp_ge (tgt := 24) hx hb d_Wi_begin_8 (by decide) (fun c_8 => ?_) (fun c_8 => ?_)
      · refine lv_aload_n hx hb d_Wi_begin_24 rfl (lv_at hl 1 rfl) ?_
        refine lv_iload_n hx hb d_Wi_begin_25 rfl (lv_at hl 2 rfl) ?_
        refine gw_put M hK hI hA i_Wi t_Wi tk_Wi n_Wi rfl 1 (by decide) f_Wi_15 rfl rfl rfl (kWi bi) (fun x hx => by obtain ⟨u1, u2, q9⟩ := hx; exact ⟨_, q9, Nat.le_of_ble_eq_true rfl, ⟨_, u2, rfl⟩⟩) d_Wi_begin_26 (fun H locs hI => ?_)
        rw [gw_up_id hA] at hI
        refine lv_aload_n hx hb d_Wi_begin_29 rfl (lv_at hl 1 rfl) ?_
        refine lv_lconst (v := 0) hx hb d_Wi_begin_30 (by decide) ?_
        refine gw_put M hK hI hA i_Wi t_Wi tk_Wi n_Wi rfl 2 (by decide) f_Wi_19 rfl rfl rfl (kWi bi) (fun x hx => by obtain ⟨u1, u2, q9⟩ := hx; exact ⟨_, q9, Nat.le_of_ble_eq_true rfl, ⟨u1, _, rfl⟩⟩) d_Wi_begin_31 (fun H locs hI => ?_)
        rw [gw_up_id hA] at hI
        exact gw_vret M hr hlo hI d_Wi_begin_34 rfl
      · have hlt : k < 32 := nb_lt (n := 32) hk c_8
        refine lv_aload_n hx hb d_Wi_begin_11 rfl (lv_at hl 1 rfl) ?_
        refine gw_get M hK hI hA i_Wi rfl 0 (by decide) f_Wi_9 rfl (Pv := fun v => v = .ref bi) (fun x hx => by obtain ⟨u1, u2, q9⟩ := hx; exact ⟨_, _, q9, rfl, rfl⟩) d_Wi_begin_12 (fun v hv => ?_)
        subst hv
        refine lv_iload_n hx hb d_Wi_begin_15 rfl (lv_at hl 0 rfl) ?_
        refine lv_iconst (v := 0) hx hb d_Wi_begin_16 (by decide) ?_
        refine gw_iast M hK hI hB (nb_in hk) trivial d_Wi_begin_17 (fun H locs hI => ?_)
        obtain ⟨x1, e_x1⟩ : ∃ ww9 : Int32, ww9 = y2 + 1 := ⟨_, rfl⟩
        refine lv_iinc (v := x1) (lv' := [(2, .int x1), (0, .ref a), (1, .int n0)]) hx hb d_Wi_begin_18 hl (k := 0) rfl (by rw [e_x1]; rfl) (by decide) rfl (fun ls hl => ?_)
        refine lv_goto (tgt := 2) hx hb d_Wi_begin_21 (by decide) ?_
        exact ih_2 (k + 1) x1 _ _ _ (by omega) (nb_s e_x1 hk) (by omega) hI (lv_sub hl [0, 1, 2] rfl)
  exact L_2 _ 0 0 _ _ _ (by decide) rfl (Nat.lt_succ_self _) hI (lv_sub hl [0, 1, 2] rfl)

abbrev rm_As_begin : Room := { frames := 1, cells := 0, slots := 0, locals := 22 }
set_option maxHeartbeats 4000000 in
set_option maxRecDepth 100000 in
theorem c_As_begin (l : Launch) {D : gw_D} {Hs : Heap} {G : gw_G} (a ci wi bi : Nat) (n1 n2 n3 n4 : Int32) (h4 : n4 = 0 ∨ n4 = 1) (hA : G a = some (kAs ci wi)) (hW : G wi = some (kWi bi)) (hB : G bi = some (kA D 0 32 tT)) : Met l y_As_begin (Cond.code y_As_begin b_As_begin 5 none :: tb) rm_As_begin (gw_Pc D Hs G [.ref a, .int n1, .int n2, .int n3, .int n4]) (gw_Qv D Hs (fun G1 => G1 = G)) 0 0 (gw_A Hs) := by
  refine gw_met (by decide) (Nat.le_of_ble_eq_true rfl) ?_
  intro p e s m args below meth c M hK hr hlo hin hI ls hl
  have hx := M.1
  have hb := M.2.1
  have hl : lv_has ls 5 [(0, .ref a), (1, .int n1), (2, .int n2), (3, .int n3), (4, .int n4)] := hl
  refine lv_aload_n hx hb d_As_begin_0 rfl (lv_at hl 0 rfl) ?_
  refine lv_iload_n hx hb d_As_begin_1 rfl (lv_at hl 1 rfl) ?_
  refine gw_put M hK hI hA i_As t_As tk_As n_As rfl 2 (by decide) f_As_23 rfl rfl rfl (kAs ci wi) (fun x hx => by obtain ⟨u2, u3, u4, u5, u6, u7, u8, u9, v1, v2, h_u4, q9⟩ := hx; exact ⟨_, q9, Nat.le_of_ble_eq_true rfl, ⟨_, u3, u4, u5, u6, u7, u8, u9, v1, v2, h_u4, rfl⟩⟩) d_As_begin_2 (fun H locs hI => ?_)
  rw [gw_up_id hA] at hI
  refine lv_aload_n hx hb d_As_begin_5 rfl (lv_at hl 0 rfl) ?_
  refine lv_iload_n hx hb d_As_begin_6 rfl (lv_at hl 2 rfl) ?_
  refine gw_put M hK hI hA i_As t_As tk_As n_As rfl 3 (by decide) f_As_27 rfl rfl rfl (kAs ci wi) (fun x hx => by obtain ⟨u2, u3, u4, u5, u6, u7, u8, u9, v1, v2, h_u4, q9⟩ := hx; exact ⟨_, q9, Nat.le_of_ble_eq_true rfl, ⟨u2, _, u4, u5, u6, u7, u8, u9, v1, v2, h_u4, rfl⟩⟩) d_As_begin_7 (fun H locs hI => ?_)
  rw [gw_up_id hA] at hI
  refine lv_aload_n hx hb d_As_begin_10 rfl (lv_at hl 0 rfl) ?_
  refine lv_iload hx hb d_As_begin_11 (lv_at hl 4 rfl) ?_
  refine gw_put M hK hI hA i_As t_As tk_As n_As rfl 4 (by decide) f_As_30 rfl (by rcases h4 with rfl | rfl <;> rfl) (by rcases h4 with rfl | rfl <;> rfl) (kAs ci wi) (fun x hx => by obtain ⟨u2, u3, u4, u5, u6, u7, u8, u9, v1, v2, h_u4, q9⟩ := hx; exact ⟨_, q9, Nat.le_of_ble_eq_true rfl, ⟨u2, u3, _, u5, u6, u7, u8, u9, v1, v2, h4, rfl⟩⟩) d_As_begin_13 (fun H locs hI => ?_)
  rw [gw_up_id hA] at hI
  refine lv_aload_n hx hb d_As_begin_16 rfl (lv_at hl 0 rfl) ?_
  refine lv_lconst (v := 0) hx hb d_As_begin_17 (by decide) ?_
  refine gw_put M hK hI hA i_As t_As tk_As n_As rfl 7 (by decide) f_As_41 rfl rfl rfl (kAs ci wi) (fun x hx => by obtain ⟨u2, u3, u4, u5, u6, u7, u8, u9, v1, v2, h_u4, q9⟩ := hx; exact ⟨_, q9, Nat.le_of_ble_eq_true rfl, ⟨u2, u3, u4, u5, u6, _, u8, u9, v1, v2, h_u4, rfl⟩⟩) d_As_begin_18 (fun H locs hI => ?_)
  rw [gw_up_id hA] at hI
  refine lv_aload_n hx hb d_As_begin_21 rfl (lv_at hl 0 rfl) ?_
  refine lv_ldc (v := 1000000000) hx hb M.2.2.2.1 (M.2.2.2.2 _ o_As_56) d_As_begin_22 ?_
  refine gw_put M hK hI hA i_As t_As tk_As n_As rfl 8 (by decide) f_As_44 rfl rfl rfl (kAs ci wi) (fun x hx => by obtain ⟨u2, u3, u4, u5, u6, u7, u8, u9, v1, v2, h_u4, q9⟩ := hx; exact ⟨_, q9, Nat.le_of_ble_eq_true rfl, ⟨u2, u3, u4, u5, u6, u7, _, u9, v1, v2, h_u4, rfl⟩⟩) d_As_begin_24 (fun H locs hI => ?_)
  rw [gw_up_id hA] at hI
  refine lv_aload_n hx hb d_As_begin_27 rfl (lv_at hl 0 rfl) ?_
  refine lv_lconst (v := 0) hx hb d_As_begin_28 (by decide) ?_
  refine gw_put M hK hI hA i_As t_As tk_As n_As rfl 9 (by decide) f_As_47 rfl rfl rfl (kAs ci wi) (fun x hx => by obtain ⟨u2, u3, u4, u5, u6, u7, u8, u9, v1, v2, h_u4, q9⟩ := hx; exact ⟨_, q9, Nat.le_of_ble_eq_true rfl, ⟨u2, u3, u4, u5, u6, u7, u8, _, v1, v2, h_u4, rfl⟩⟩) d_As_begin_29 (fun H locs hI => ?_)
  rw [gw_up_id hA] at hI
  refine lv_aload_n hx hb d_As_begin_32 rfl (lv_at hl 0 rfl) ?_
  refine lv_lconst (v := 0) hx hb d_As_begin_33 (by decide) ?_
  refine gw_put M hK hI hA i_As t_As tk_As n_As rfl 10 (by decide) f_As_50 rfl rfl rfl (kAs ci wi) (fun x hx => by obtain ⟨u2, u3, u4, u5, u6, u7, u8, u9, v1, v2, h_u4, q9⟩ := hx; exact ⟨_, q9, Nat.le_of_ble_eq_true rfl, ⟨u2, u3, u4, u5, u6, u7, u8, u9, _, v2, h_u4, rfl⟩⟩) d_As_begin_34 (fun H locs hI => ?_)
  rw [gw_up_id hA] at hI
  refine lv_aload_n hx hb d_As_begin_37 rfl (lv_at hl 0 rfl) ?_
  refine lv_lconst (v := 0) hx hb d_As_begin_38 (by decide) ?_
  refine gw_put M hK hI hA i_As t_As tk_As n_As rfl 11 (by decide) f_As_53 rfl rfl rfl (kAs ci wi) (fun x hx => by obtain ⟨u2, u3, u4, u5, u6, u7, u8, u9, v1, v2, h_u4, q9⟩ := hx; exact ⟨_, q9, Nat.le_of_ble_eq_true rfl, ⟨u2, u3, u4, u5, u6, u7, u8, u9, v1, _, h_u4, rfl⟩⟩) d_As_begin_39 (fun H locs hI => ?_)
  rw [gw_up_id hA] at hI
  refine lv_aload_n hx hb d_As_begin_42 rfl (lv_at hl 0 rfl) ?_
  refine gw_get M hK hI hA i_As rfl 1 (by decide) f_As_19 rfl (Pv := fun v => v = .ref wi) (fun x hx => by obtain ⟨u2, u3, u4, u5, u6, u7, u8, u9, v1, v2, h_u4, q9⟩ := hx; exact ⟨_, _, q9, rfl, rfl⟩) d_As_begin_43 (fun v hv => ?_)
  subst hv
  refine lv_iload_n hx hb d_As_begin_46 rfl (lv_at hl 3 rfl) ?_
  refine gw_Vv (As := [.int n3]) (rest := []) M hK hI (c_Wi_begin l wi bi n3 hW hB) k_Wi_begin m_As_57 hW (ci := 4) rfl (fun x hx => by obtain ⟨u1, u2, q9⟩ := hx; exact ⟨_, q9⟩) rfl hl.1 rfl (Nat.le_of_ble_eq_true rfl) ⟨rfl, rfl, ⟨Nat.le_of_ble_eq_true rfl, Nat.le_of_ble_eq_true rfl⟩, ⟨Nat.le_of_ble_eq_true rfl, Nat.le_of_ble_eq_true rfl⟩⟩ d_As_begin_47 (fun G9 H locs hw hI => ?_)
  rw [hw] at hI
  exact gw_vret M hr hlo hI d_As_begin_50 rfl

abbrev rm_As_takeKey : Room := { frames := 3, cells := 0, slots := 0, locals := 76 }
set_option maxHeartbeats 4000000 in
set_option maxRecDepth 100000 in
theorem c_As_takeKey (l : Launch) {D : gw_D} {Hs : Heap} {G : gw_G} (a ci wi wo : Nat) (kh kl : Int64) (hA : G a = some (kAs ci wi)) (hC : G ci = some (kCi wo)) (hO : G wo = some (kA D 0 44 tT)) : Met l y_As_takeKey (Cond.code y_As_takeKey b_As_takeKey 5 none :: tb) rm_As_takeKey (gw_Pc D Hs G [.ref a, .long kh, .long kl]) (gw_Qv D Hs (fun G1 => G1 = G)) 0 0 (gw_A Hs) := by
  refine gw_met (by decide) (Nat.le_of_ble_eq_true rfl) ?_
  intro p e s m args below meth c M hK hr hlo hin hI ls hl
  have hx := M.1
  have hb := M.2.1
  have hl : lv_has ls 5 [(0, .ref a), (1, .long kh), (3, .long kl)] := hl
  refine lv_aload_n hx hb d_As_takeKey_0 rfl (lv_at hl 0 rfl) ?_
  refine gw_get M hK hI hA i_As rfl 0 (by decide) f_As_10 rfl (Pv := fun v => v = .ref ci) (fun x hx => by obtain ⟨u2, u3, u4, u5, u6, u7, u8, u9, v1, v2, h_u4, q9⟩ := hx; exact ⟨_, _, q9, rfl, rfl⟩) d_As_takeKey_1 (fun v hv => ?_)
  subst hv
  refine lv_lload_n hx hb d_As_takeKey_4 rfl (lv_at hl 1 rfl) ?_
  refine lv_lload_n hx hb d_As_takeKey_5 rfl (lv_at hl 2 rfl) ?_
  refine gw_Vv (As := [.long kh, .long kl]) (rest := []) M hK hI (c_Ci_takeKey l ci wo kh kl hC hO) k_Ci_takeKey m_As_61 hC (ci := 2) rfl (fun x hx => by obtain ⟨u1, u2, q9⟩ := hx; exact ⟨_, q9⟩) rfl hl.1 rfl (Nat.le_of_ble_eq_true rfl) ⟨rfl, rfl, ⟨Nat.le_of_ble_eq_true rfl, Nat.le_of_ble_eq_true rfl⟩, ⟨Nat.le_of_ble_eq_true rfl, Nat.le_of_ble_eq_true rfl⟩⟩ d_As_takeKey_6 (fun G9 H locs hw hI => ?_)
  rw [hw] at hI
  refine lv_aload_n hx hb d_As_takeKey_9 rfl (lv_at hl 0 rfl) ?_
  refine gw_get M hK hI hA i_As rfl 0 (by decide) f_As_10 rfl (Pv := fun v => v = .ref ci) (fun x hx => by obtain ⟨u2, u3, u4, u5, u6, u7, u8, u9, v1, v2, h_u4, q9⟩ := hx; exact ⟨_, _, q9, rfl, rfl⟩) d_As_takeKey_10 (fun v hv => ?_)
  subst hv
  refine lv_iconst (v := 0) hx hb d_As_takeKey_13 (by decide) ?_
  refine lv_iconst (v := 0) hx hb d_As_takeKey_14 (by decide) ?_
  refine lv_iconst (v := 0) hx hb d_As_takeKey_15 (by decide) ?_
  refine lv_iconst (v := 0) hx hb d_As_takeKey_16 (by decide) ?_
  refine gw_Vv (As := [.int 0, .int 0, .int 0, .int 0]) (rest := []) M hK hI (c_Ci_encrypt l ci wo 0 0 0 0 hC hO) k_Ci_encrypt m_As_65 hC (ci := 2) rfl (fun x hx => by obtain ⟨u1, u2, q9⟩ := hx; exact ⟨_, q9⟩) rfl hl.1 rfl (Nat.le_of_ble_eq_true rfl) ⟨rfl, rfl, ⟨Nat.le_of_ble_eq_true rfl, Nat.le_of_ble_eq_true rfl⟩, ⟨Nat.le_of_ble_eq_true rfl, Nat.le_of_ble_eq_true rfl⟩⟩ d_As_takeKey_17 (fun G9 H locs hw hI => ?_)
  rw [hw] at hI
  refine lv_aload_n hx hb d_As_takeKey_20 rfl (lv_at hl 0 rfl) ?_
  refine lv_aload_n hx hb d_As_takeKey_21 rfl (lv_at hl 0 rfl) ?_
  refine gw_get M hK hI hA i_As rfl 0 (by decide) f_As_10 rfl (Pv := fun v => v = .ref ci) (fun x hx => by obtain ⟨u2, u3, u4, u5, u6, u7, u8, u9, v1, v2, h_u4, q9⟩ := hx; exact ⟨_, _, q9, rfl, rfl⟩) d_As_takeKey_22 (fun v hv => ?_)
  subst hv
  refine gw_get M hK hI hC i_Ci rfl 1 (by decide) f_As_69 rfl (Pv := fun v => ∃ x9 : Int64, v = .long x9) (fun x hx => by obtain ⟨u1, u2, q9⟩ := hx; exact ⟨_, _, q9, rfl, _, rfl⟩) d_As_takeKey_25 (fun v hv => ?_)
  obtain ⟨x3, rfl⟩ := hv
  refine gw_put M hK hI hA i_As t_As tk_As n_As rfl 5 (by decide) f_As_34 rfl rfl rfl (kAs ci wi) (fun x hx => by obtain ⟨u2, u3, u4, u5, u6, u7, u8, u9, v1, v2, h_u4, q9⟩ := hx; exact ⟨_, q9, Nat.le_of_ble_eq_true rfl, ⟨u2, u3, u4, _, u6, u7, u8, u9, v1, v2, h_u4, rfl⟩⟩) d_As_takeKey_28 (fun H locs hI => ?_)
  rw [gw_up_id hA] at hI
  refine lv_aload_n hx hb d_As_takeKey_31 rfl (lv_at hl 0 rfl) ?_
  refine lv_aload_n hx hb d_As_takeKey_32 rfl (lv_at hl 0 rfl) ?_
  refine gw_get M hK hI hA i_As rfl 0 (by decide) f_As_10 rfl (Pv := fun v => v = .ref ci) (fun x hx => by obtain ⟨u2, u3, u4, u5, u6, u7, u8, u9, v1, v2, h_u4, q9⟩ := hx; exact ⟨_, _, q9, rfl, rfl⟩) d_As_takeKey_33 (fun v hv => ?_)
  subst hv
  refine gw_get M hK hI hC i_Ci rfl 2 (by decide) f_As_72 rfl (Pv := fun v => ∃ x9 : Int64, v = .long x9) (fun x hx => by obtain ⟨u1, u2, q9⟩ := hx; exact ⟨_, _, q9, rfl, _, rfl⟩) d_As_takeKey_36 (fun v hv => ?_)
  obtain ⟨x4, rfl⟩ := hv
  refine gw_put M hK hI hA i_As t_As tk_As n_As rfl 6 (by decide) f_As_38 rfl rfl rfl (kAs ci wi) (fun x hx => by obtain ⟨u2, u3, u4, u5, u6, u7, u8, u9, v1, v2, h_u4, q9⟩ := hx; exact ⟨_, q9, Nat.le_of_ble_eq_true rfl, ⟨u2, u3, u4, u5, _, u7, u8, u9, v1, v2, h_u4, rfl⟩⟩) d_As_takeKey_39 (fun H locs hI => ?_)
  rw [gw_up_id hA] at hI
  exact gw_vret M hr hlo hI d_As_takeKey_42 rfl
