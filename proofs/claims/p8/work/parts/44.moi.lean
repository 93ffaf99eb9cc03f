/-- arrays that are there, each once -/
def mi_ok (S : Nat → Bool) (q : Nat → Nat) (G : gw_G) : Prop := (∀ j, S j = true → ∃ K, G (q j) = some K) ∧ ∀ j k, S j = true → S k = true → q j = q k → j = k
theorem gw_up_some {G : gw_G} {a b : Nat} {K K' : va_E → Prop} (h : G b = some K) : ∃ K2, gw_up G a K' b = some K2 := by
  by_cases e : b = a
  · subst e; exact ⟨_, gw_up_s⟩
  · exact ⟨K, (gw_up_n e).trans h⟩
theorem mi_ok.up {S : Nat → Bool} {q : Nat → Nat} {G : gw_G} {a : Nat} {K' : va_E → Prop} (h : mi_ok S q G) : mi_ok S q (gw_up G a K') := ⟨fun j hj => by obtain ⟨K, hK⟩ := h.1 j hj; exact gw_up_some hK, h.2⟩
theorem mi_ok.new {S : Nat → Bool} {q : Nat → Nat} {G : gw_G} {a : Nat} {K' : va_E → Prop} (h : mi_ok S q G) (k : Nat) (hz : G a = none) : mi_ok (fun j => j == k || S j) (fup q k a) (gw_up G a K') := by
  have h1 : ∀ j, S j = true → q j ≠ a := fun j hj e => by obtain ⟨K, hK⟩ := h.1 j hj; rw [e, hz] at hK; cases hK
  refine ⟨fun j hj => ?_, fun j i hj hi e => ?_⟩
  · by_cases e : j = k
    · subst e; rw [fup_s]; exact ⟨_, gw_up_s⟩
    · rw [fup_n e]
      have h2 : S j = true := by simpa [e] using hj
      obtain ⟨K, hK⟩ := h.1 j h2
      exact gw_up_some hK
  · by_cases e1 : j = k <;> by_cases e2 : i = k
    · rw [e1, e2]
    · have h2 : S i = true := by simpa [e2] using hi
      rw [e1, fup_s, fup_n e2] at e; exact absurd e.symm (h1 i h2)
    · have h2 : S j = true := by simpa [e1] using hj
      rw [e2, fup_s, fup_n e1] at e; exact absurd e (h1 j h2)
    · have h2 : S i = true := by simpa [e2] using hi
      have h3 : S j = true := by simpa [e1] using hj
      rw [fup_n e1, fup_n e2] at e; exact h.2 j i h3 h2 e

theorem mi_S : ∀ k, mo_is k = true → (fun j => j == 29 || (fun j => j == 28 || (fun j => j == 27 || (fun j => j == 26 || (fun j => j == 25 || (fun j => j == 24 || (fun j => j == 22 || (fun j => j == 21 || (fun j => j == 20 || (fun j => j == 18 || (fun j => j == 16 || (fun j => j == 15 || (fun j => j == 14 || (fun j => j == 13 || (fun j => j == 12 || (fun j => j == 11 || (fun j => j == 10 || (fun j => j == 9 || (fun j => j == 8 || (fun j => j == 7 || (fun j => j == 6 || (fun j => j == 5 || (fun j => j == 4 || (fun j => j == 3 || (fun j => j == 2 || (fun j => j == 1 || (fun _ => false) j) j) j) j) j) j) j) j) j) j) j) j) j) j) j) j) j) j) j) j) j) j) j) j) j) j) k = true := by
  intro k hk
  have h : ∀ k, k < 30 → mo_is k = true → (fun j => j == 29 || (fun j => j == 28 || (fun j => j == 27 || (fun j => j == 26 || (fun j => j == 25 || (fun j => j == 24 || (fun j => j == 22 || (fun j => j == 21 || (fun j => j == 20 || (fun j => j == 18 || (fun j => j == 16 || (fun j => j == 15 || (fun j => j == 14 || (fun j => j == 13 || (fun j => j == 12 || (fun j => j == 11 || (fun j => j == 10 || (fun j => j == 9 || (fun j => j == 8 || (fun j => j == 7 || (fun j => j == 6 || (fun j => j == 5 || (fun j => j == 4 || (fun j => j == 3 || (fun j => j == 2 || (fun j => j == 1 || (fun _ => false) j) j) j) j) j) j) j) j) j) j) j) j) j) j) j) j) j) j) j) j) j) j) j) j) j) j) k = true := by decide +kernel
  exact h k (by simp [mo_is] at hk; exact hk.2) hk

theorem ks_all : ∀ j, j < 8 → (upd (upd (upd (upd (upd (upd (upd (upd (fun _ => 0) ((0 : Int32)).toNatClampNeg (-1 : Int32)) ((1 : Int32)).toNatClampNeg (-1 : Int32)) ((2 : Int32)).toNatClampNeg (-1 : Int32)) ((3 : Int32)).toNatClampNeg (-1 : Int32)) ((4 : Int32)).toNatClampNeg (-1 : Int32)) ((5 : Int32)).toNatClampNeg (-1 : Int32)) ((6 : Int32)).toNatClampNeg (-1 : Int32)) ((7 : Int32)).toNatClampNeg (-1 : Int32)) j = (-1 : Int32) := by decide +kernel

abbrev rm_Mo_init : Room := { frames := 1, cells := 26, slots := 23568, locals := 23 }
set_option maxHeartbeats 4000000 in
set_option maxRecDepth 100000 in
theorem c_Mo_init (l : Launch) {D : gw_D} {Hs : Heap} {G : gw_G} (a : Nat) (hR : G a = some (kx (.inr (6, [.int 0, .null, .null, .null, .null, .null, .null, .null, .null, .null, .null, .null, .null, .null, .null, .null, .null, .int 0, .null, .int 0, .null, .null, .null, .int 0, .null, .null, .null, .null, .null, .null])))) : Met l y_Mo_init (Cond.code y_Mo_init b_Mo_init 6 none :: tb) rm_Mo_init (gw_Pc D Hs G [.ref a]) (gw_Qv D Hs (fun G1 => (∃ q, mdl D G1 a q 0 0 0 0 0 (fun _ => 0) (fun _ => 0) (fun _ => 0) (fun _ => 0) (fun _ => 0) ∧ ∀ k, mo_is k = true → G (q k) = none) ∧ gw_fr (fun b => b = a) G G1)) 26 23568 (gw_A Hs) := by
  refine gw_met (by decide) (Nat.le_of_ble_eq_true rfl) ?_
  intro p e s m args below meth c M hK hr hlo hin hI ls hl
  have hx := M.1
  have hb := M.2.1
  have hl : lv_has ls 6 [(0, .ref a)] := hl
  have hf0 : gw_fr (fun b => b = a) G G := gw_fr.rf
  have hmi : mi_ok (fun _ => false) (fun _ => 0) G := ⟨fun j h => absurd h Bool.false_ne_true, fun j k h => absurd h Bool.false_ne_true⟩
  refine lv_aload_n hx hb d_Mo_init_0 rfl (lv_at hl 0 rfl) ?_
  refine W.objInit hx hb M.2.2.2.1 (M.2.2.2.2 _ m_Mo_1) (M.2.2.2.2 _ oi_1) (M.2.2.2.2 _ oi_2) rfl (by rw [M.2.2.1]; exact hl.1) rfl d_Mo_init_1 (Nat.le_of_ble_eq_true rfl) (Nat.le_of_ble_eq_true rfl) ?_
  refine W.eq (g2 := F0 m 4 ls []) rfl ?_
  refine lv_aload_n hx hb d_Mo_init_4 rfl (lv_at hl 0 rfl) ?_
  refine lv_sipush (v := 256) hx hb d_Mo_init_5 (by decide) ?_
  refine gw_newa M hK hI (atype := .int) a_int 0 rfl (fun U cA h => h) (N' := 256) (a0 := (256, .inl (fun _ => 0))) (fun cA => rfl) (by decide) rfl (Nat.le_of_ble_eq_true rfl) (Nat.le_of_ble_eq_true rfl) (Nat.le_of_ble_eq_true rfl) (kA D 0 256 by8) (⟨_, fun _ _ => (show uN 0 < 256 by decide), rfl⟩) d_Mo_init_8 (fun q1 H hz2 hI => ?_)
  generalize hE_G3 : gw_up G q1 (kA D 0 256 by8) = G3 at hI
  have hG5 : G3 q1 = some (kA D 0 256 by8) := by rw [← hE_G3]; exact gw_up_s
  have hs4 : gw_fr (fun _ => False) G G3 := by rw [← hE_G3]; exact gw_fr.new hz2
  have hn6 : a ≠ q1 := fun q9 => by have h9 := hR; rw [q9, hz2] at h9; cases h9
  have hy7 : G q1 = none := by
    cases h9 : G q1 with
    | none => rfl
    | some K9 => exact absurd (hf0 q1 K9 h9 (fun e9 => hn6 e9.symm)) (by rw [hz2]; exact fun h => by cases h)
  have hf8 : gw_fr (fun b => b = a) G G3 := gw_fr.tr hf0 (by rw [← hE_G3]; exact gw_fr.new hz2)
  have hmi := hmi.new (K' := (kA D 0 256 by8)) 1 hz2
  rw [hE_G3] at hmi
  have hG9 : G3 a = some (kx (.inr (6, [.int 0, .null, .null, .null, .null, .null, .null, .null, .null, .null, .null, .null, .null, .null, .null, .null, .null, .int 0, .null, .int 0, .null, .null, .null, .int 0, .null, .null, .null, .null, .null, .null]))) := (hs4 a _ hR (fun h => h))
  refine gw_putF M hK hI hG9 i_Mo t_Mo tk_Mo n_Mo rfl 1 (by decide) f_Mo_7 rfl hin rfl rfl (kx (.inr (6, [.int 0, .ref q1, .null, .null, .null, .null, .null, .null, .null, .null, .null, .null, .null, .null, .null, .null, .null, .int 0, .null, .int 0, .null, .null, .null, .int 0, .null, .null, .null, .null, .null, .null]))) (fun x hx => ⟨_, hx, Nat.le_of_ble_eq_true rfl, rfl⟩) d_Mo_init_10 (fun H locs hI => ?_)
  obtain ⟨G10, hE_G10⟩ : ∃ z9, gw_up G3 a (kx (.inr (6, [.int 0, .ref q1, .null, .null, .null, .null, .null, .null, .null, .null, .null, .null, .null, .null, .null, .null, .null, .int 0, .null, .int 0, .null, .null, .null, .int 0, .null, .null, .null, .null, .null, .null]))) = z9 := ⟨_, rfl⟩
  rw [hE_G10] at hI
  have hG12 : G10 a = some (kx (.inr (6, [.int 0, .ref q1, .null, .null, .null, .null, .null, .null, .null, .null, .null, .null, .null, .null, .null, .null, .null, .int 0, .null, .int 0, .null, .null, .null, .int 0, .null, .null, .null, .null, .null, .null]))) := by rw [← hE_G10]; exact gw_up_s
  have hs11 : gw_fr (fun b => b = a) G3 G10 := by rw [← hE_G10]; exact gw_fr.up rfl
  have hf13 : gw_fr (fun b => b = a) G G10 := gw_fr.tr hf8 (by rw [← hE_G10]; exact gw_fr.up rfl)
  have hmi := hmi.up (a := a) (K' := (kx (.inr (6, [.int 0, .ref q1, .null, .null, .null, .null, .null, .null, .null, .null, .null, .null, .null, .null, .null, .null, .null, .int 0, .null, .int 0, .null, .null, .null, .int 0, .null, .null, .null, .null, .null, .null]))))
  rw [hE_G10] at hmi
  refine lv_aload_n hx hb d_Mo_init_13 rfl (lv_at hl 0 rfl) ?_
  refine lv_bipush (v := 16) hx hb d_Mo_init_14 (by decide) ?_
  refine gw_newa M hK hI (atype := .boolean) a_boolean 2 rfl (fun U cA h => h) (N' := 16) (a0 := (16, .inl (fun _ => 0))) (fun cA => rfl) (by decide) rfl (Nat.le_of_ble_eq_true rfl) (Nat.le_of_ble_eq_true rfl) (Nat.le_of_ble_eq_true rfl) (kx (.inl (D.2 2, 16, .inl (fun _ => 0)))) rfl d_Mo_init_16 (fun q14 H hz15 hI => ?_)
  generalize hE_G16 : gw_up G10 q14 (kx (.inl (D.2 2, 16, .inl (fun _ => 0)))) = G16 at hI
  have hG18 : G16 q14 = some (kx (.inl (D.2 2, 16, .inl (fun _ => 0)))) := by rw [← hE_G16]; exact gw_up_s
  have hs17 : gw_fr (fun _ => False) G10 G16 := by rw [← hE_G16]; exact gw_fr.new hz15
  have hn19 : a ≠ q14 := fun q9 => by have h9 := hG12; rw [q9, hz15] at h9; cases h9
  have hy20 : G q14 = none := by
    cases h9 : G q14 with
    | none => rfl
    | some K9 => exact absurd (hf13 q14 K9 h9 (fun e9 => hn19 e9.symm)) (by rw [hz15]; exact fun h => by cases h)
  have hf21 : gw_fr (fun b => b = a) G G16 := gw_fr.tr hf13 (by rw [← hE_G16]; exact gw_fr.new hz15)
  have hmi := hmi.new (K' := (kx (.inl (D.2 2, 16, .inl (fun _ => 0))))) 2 hz15
  rw [hE_G16] at hmi
  have hG22 : G16 a = some (kx (.inr (6, [.int 0, .ref q1, .null, .null, .null, .null, .null, .null, .null, .null, .null, .null, .null, .null, .null, .null, .null, .int 0, .null, .int 0, .null, .null, .null, .int 0, .null, .null, .null, .null, .null, .null]))) := (hs17 a _ hG12 (fun h => h))
  refine gw_putF M hK hI hG22 i_Mo t_Mo tk_Mo n_Mo rfl 2 (by decide) f_Mo_13 rfl hin rfl rfl (kx (.inr (6, [.int 0, .ref q1, .ref q14, .null, .null, .null, .null, .null, .null, .null, .null, .null, .null, .null, .null, .null, .null, .int 0, .null, .int 0, .null, .null, .null, .int 0, .null, .null, .null, .null, .null, .null]))) (fun x hx => ⟨_, hx, Nat.le_of_ble_eq_true rfl, rfl⟩) d_Mo_init_18 (fun H locs hI => ?_)
  obtain ⟨G23, hE_G23⟩ : ∃ z9, gw_up G16 a (kx (.inr (6, [.int 0, .ref q1, .ref q14, .null, .null, .null, .null, .null, .null, .null, .null, .null, .null, .null, .null, .null, .null, .int 0, .null, .int 0, .null, .null, .null, .int 0, .null, .null, .null, .null, .null, .null]))) = z9 := ⟨_, rfl⟩
  rw [hE_G23] at hI
  have hG25 : G23 a = some (kx (.inr (6, [.int 0, .ref q1, .ref q14, .null, .null, .null, .null, .null, .null, .null, .null, .null, .null, .null, .null, .null, .null, .int 0, .null, .int 0, .null, .null, .null, .int 0, .null, .null, .null, .null, .null, .null]))) := by rw [← hE_G23]; exact gw_up_s
  have hs24 : gw_fr (fun b => b = a) G16 G23 := by rw [← hE_G23]; exact gw_fr.up rfl
  have hf26 : gw_fr (fun b => b = a) G G23 := gw_fr.tr hf21 (by rw [← hE_G23]; exact gw_fr.up rfl)
  have hmi := hmi.up (a := a) (K' := (kx (.inr (6, [.int 0, .ref q1, .ref q14, .null, .null, .null, .null, .null, .null, .null, .null, .null, .null, .null, .null, .null, .null, .int 0, .null, .int 0, .null, .null, .null, .int 0, .null, .null, .null, .null, .null, .null]))))
  rw [hE_G23] at hmi
  refine lv_aload_n hx hb d_Mo_init_21 rfl (lv_at hl 0 rfl) ?_
  refine lv_bipush (v := 16) hx hb d_Mo_init_22 (by decide) ?_
  refine gw_newa M hK hI (atype := .int) a_int 0 rfl (fun U cA h => h) (N' := 16) (a0 := (16, .inl (fun _ => 0))) (fun cA => rfl) (by decide) rfl (Nat.le_of_ble_eq_true rfl) (Nat.le_of_ble_eq_true rfl) (Nat.le_of_ble_eq_true rfl) (kx (.inl (D.2 0, 16, .inl (fun _ => 0)))) rfl d_Mo_init_24 (fun q27 H hz28 hI => ?_)
  generalize hE_G29 : gw_up G23 q27 (kx (.inl (D.2 0, 16, .inl (fun _ => 0)))) = G29 at hI
  have hG31 : G29 q27 = some (kx (.inl (D.2 0, 16, .inl (fun _ => 0)))) := by rw [← hE_G29]; exact gw_up_s
  have hs30 : gw_fr (fun _ => False) G23 G29 := by rw [← hE_G29]; exact gw_fr.new hz28
  have hn32 : a ≠ q27 := fun q9 => by have h9 := hG25; rw [q9, hz28] at h9; cases h9
  have hy33 : G q27 = none := by
    cases h9 : G q27 with
    | none => rfl
    | some K9 => exact absurd (hf26 q27 K9 h9 (fun e9 => hn32 e9.symm)) (by rw [hz28]; exact fun h => by cases h)
  have hf34 : gw_fr (fun b => b = a) G G29 := gw_fr.tr hf26 (by rw [← hE_G29]; exact gw_fr.new hz28)
  have hmi := hmi.new (K' := (kx (.inl (D.2 0, 16, .inl (fun _ => 0))))) 3 hz28
  rw [hE_G29] at hmi
  have hG35 : G29 a = some (kx (.inr (6, [.int 0, .ref q1, .ref q14, .null, .null, .null, .null, .null, .null, .null, .null, .null, .null, .null, .null, .null, .null, .int 0, .null, .int 0, .null, .null, .null, .int 0, .null, .null, .null, .null, .null, .null]))) := (hs30 a _ hG25 (fun h => h))
  refine gw_putF M hK hI hG35 i_Mo t_Mo tk_Mo n_Mo rfl 3 (by decide) f_Mo_17 rfl hin rfl rfl (kx (.inr (6, [.int 0, .ref q1, .ref q14, .ref q27, .null, .null, .null, .null, .null, .null, .null, .null, .null, .null, .null, .null, .null, .int 0, .null, .int 0, .null, .null, .null, .int 0, .null, .null, .null, .null, .null, .null]))) (fun x hx => ⟨_, hx, Nat.le_of_ble_eq_true rfl, rfl⟩) d_Mo_init_26 (fun H locs hI => ?_)
  obtain ⟨G36, hE_G36⟩ : ∃ z9, gw_up G29 a (kx (.inr (6, [.int 0, .ref q1, .ref q14, .ref q27, .null, .null, .null, .null, .null, .null, .null, .null, .null, .null, .null, .null, .null, .int 0, .null, .int 0, .null, .null, .null, .int 0, .null, .null, .null, .null, .null, .null]))) = z9 := ⟨_, rfl⟩
  rw [hE_G36] at hI
  have hG38 : G36 a = some (kx (.inr (6, [.int 0, .ref q1, .ref q14, .ref q27, .null, .null, .null, .null, .null, .null, .null, .null, .null, .null, .null, .null, .null, .int 0, .null, .int 0, .null, .null, .null, .int 0, .null, .null, .null, .null, .null, .null]))) := by rw [← hE_G36]; exact gw_up_s
  have hs37 : gw_fr (fun b => b = a) G29 G36 := by rw [← hE_G36]; exact gw_fr.up rfl
  have hf39 : gw_fr (fun b => b = a) G G36 := gw_fr.tr hf34 (by rw [← hE_G36]; exact gw_fr.up rfl)
  have hmi := hmi.up (a := a) (K' := (kx (.inr (6, [.int 0, .ref q1, .ref q14, .ref q27, .null, .null, .null, .null, .null, .null, .null, .null, .null, .null, .null, .null, .null, .int 0, .null, .int 0, .null, .null, .null, .int 0, .null, .null, .null, .null, .null, .null]))))
  rw [hE_G36] at hmi
  refine lv_aload_n hx hb d_Mo_init_29 rfl (lv_at hl 0 rfl) ?_
  refine lv_sipush (v := 2816) hx hb d_Mo_init_30 (by decide) ?_
  refine gw_newa M hK hI (atype := .int) a_int 0 rfl (fun U cA h => h) (N' := 2816) (a0 := (2816, .inl (fun _ => 0))) (fun cA => rfl) (by decide) rfl (Nat.le_of_ble_eq_true rfl) (Nat.le_of_ble_eq_true rfl) (Nat.le_of_ble_eq_true rfl) (kA D 0 2816 by8) (⟨_, fun _ _ => (show uN 0 < 256 by decide), rfl⟩) d_Mo_init_33 (fun q40 H hz41 hI => ?_)
  generalize hE_G42 : gw_up G36 q40 (kA D 0 2816 by8) = G42 at hI
  have hG44 : G42 q40 = some (kA D 0 2816 by8) := by rw [← hE_G42]; exact gw_up_s
  have hs43 : gw_fr (fun _ => False) G36 G42 := by rw [← hE_G42]; exact gw_fr.new hz41
  have hn45 : a ≠ q40 := fun q9 => by have h9 := hG38; rw [q9, hz41] at h9; cases h9
  have hy46 : G q40 = none := by
    cases h9 : G q40 with
    | none => rfl
    | some K9 => exact absurd (hf39 q40 K9 h9 (fun e9 => hn45 e9.symm)) (by rw [hz41]; exact fun h => by cases h)
  have hf47 : gw_fr (fun b => b = a) G G42 := gw_fr.tr hf39 (by rw [← hE_G42]; exact gw_fr.new hz41)
  have hmi := hmi.new (K' := (kA D 0 2816 by8)) 4 hz41
  rw [hE_G42] at hmi
  have hG48 : G42 a = some (kx (.inr (6, [.int 0, .ref q1, .ref q14, .ref q27, .null, .null, .null, .null, .null, .null, .null, .null, .null, .null, .null, .null, .null, .int 0, .null, .int 0, .null, .null, .null, .int 0, .null, .null, .null, .null, .null, .null]))) := (hs43 a _ hG38 (fun h => h))
  refine gw_putF M hK hI hG48 i_Mo t_Mo tk_Mo n_Mo rfl 4 (by decide) f_Mo_20 rfl hin rfl rfl (kx (.inr (6, [.int 0, .ref q1, .ref q14, .ref q27, .ref q40, .null, .null, .null, .null, .null, .null, .null, .null, .null, .null, .null, .null, .int 0, .null, .int 0, .null, .null, .null, .int 0, .null, .null, .null, .null, .null, .null]))) (fun x hx => ⟨_, hx, Nat.le_of_ble_eq_true rfl, rfl⟩) d_Mo_init_35 (fun H locs hI => ?_)
  obtain ⟨G49, hE_G49⟩ : ∃ z9, gw_up G42 a (kx (.inr (6, [.int 0, .ref q1, .ref q14, .ref q27, .ref q40, .null, .null, .null, .null, .null, .null, .null, .null, .null, .null, .null, .null, .int 0, .null, .int 0, .null, .null, .null, .int 0, .null, .null, .null, .null, .null, .null]))) = z9 := ⟨_, rfl⟩
  rw [hE_G49] at hI
  have hG51 : G49 a = some (kx (.inr (6, [.int 0, .ref q1, .ref q14, .ref q27, .ref q40, .null, .null, .null, .null, .null, .null, .null, .null, .null, .null, .null, .null, .int 0, .null, .int 0, .null, .null, .null, .int 0, .null, .null, .null, .null, .null, .null]))) := by rw [← hE_G49]; exact gw_up_s
  have hs50 : gw_fr (fun b => b = a) G42 G49 := by rw [← hE_G49]; exact gw_fr.up rfl
  have hf52 : gw_fr (fun b => b = a) G G49 := gw_fr.tr hf47 (by rw [← hE_G49]; exact gw_fr.up rfl)
  have hmi := hmi.up (a := a) (K' := (kx (.inr (6, [.int 0, .ref q1, .ref q14, .ref q27, .ref q40, .null, .null, .null, .null, .null, .null, .null, .null, .null, .null, .null, .null, .int 0, .null, .int 0, .null, .null, .null, .int 0, .null, .null, .null, .null, .null, .null]))))
  rw [hE_G49] at hmi
  refine lv_aload_n hx hb d_Mo_init_38 rfl (lv_at hl 0 rfl) ?_
  refine lv_bipush (v := 16) hx hb d_Mo_init_39 (by decide) ?_
  refine gw_newa M hK hI (atype := .int) a_int 0 rfl (fun U cA h => h) (N' := 16) (a0 := (16, .inl (fun _ => 0))) (fun cA => rfl) (by decide) rfl (Nat.le_of_ble_eq_true rfl) (Nat.le_of_ble_eq_true rfl) (Nat.le_of_ble_eq_true rfl) (kA D 0 16 tT) (⟨_, fun _ _ => trivial, rfl⟩) d_Mo_init_41 (fun q53 H hz54 hI => ?_)
  generalize hE_G55 : gw_up G49 q53 (kA D 0 16 tT) = G55 at hI
  have hG57 : G55 q53 = some (kA D 0 16 tT) := by rw [← hE_G55]; exact gw_up_s
  have hs56 : gw_fr (fun _ => False) G49 G55 := by rw [← hE_G55]; exact gw_fr.new hz54
  have hn58 : a ≠ q53 := fun q9 => by have h9 := hG51; rw [q9, hz54] at h9; cases h9
  have hy59 : G q53 = none := by
    cases h9 : G q53 with
    | none => rfl
    | some K9 => exact absurd (hf52 q53 K9 h9 (fun e9 => hn58 e9.symm)) (by rw [hz54]; exact fun h => by cases h)
  have hf60 : gw_fr (fun b => b = a) G G55 := gw_fr.tr hf52 (by rw [← hE_G55]; exact gw_fr.new hz54)
  have hmi := hmi.new (K' := (kA D 0 16 tT)) 5 hz54
  rw [hE_G55] at hmi
  have hG61 : G55 a = some (kx (.inr (6, [.int 0, .ref q1, .ref q14, .ref q27, .ref q40, .null, .null, .null, .null, .null, .null, .null, .null, .null, .null, .null, .null, .int 0, .null, .int 0, .null, .null, .null, .int 0, .null, .null, .null, .null, .null, .null]))) := (hs56 a _ hG51 (fun h => h))
  refine gw_putF M hK hI hG61 i_Mo t_Mo tk_Mo n_Mo rfl 5 (by decide) f_Mo_23 rfl hin rfl rfl (kx (.inr (6, [.int 0, .ref q1, .ref q14, .ref q27, .ref q40, .ref q53, .null, .null, .null, .null, .null, .null, .null, .null, .null, .null, .null, .int 0, .null, .int 0, .null, .null, .null, .int 0, .null, .null, .null, .null, .null, .null]))) (fun x hx => ⟨_, hx, Nat.le_of_ble_eq_true rfl, rfl⟩) d_Mo_init_43 (fun H locs hI => ?_)
  obtain ⟨G62, hE_G62⟩ : ∃ z9, gw_up G55 a (kx (.inr (6, [.int 0, .ref q1, .ref q14, .ref q27, .ref q40, .ref q53, .null, .null, .null, .null, .null, .null, .null, .null, .null, .null, .null, .int 0, .null, .int 0, .null, .null, .null, .int 0, .null, .null, .null, .null, .null, .null]))) = z9 := ⟨_, rfl⟩
  rw [hE_G62] at hI
  have hG64 : G62 a = some (kx (.inr (6, [.int 0, .ref q1, .ref q14, .ref q27, .ref q40, .ref q53, .null, .null, .null, .null, .null, .null, .null, .null, .null, .null, .null, .int 0, .null, .int 0, .null, .null, .null, .int 0, .null, .null, .null, .null, .null, .null]))) := by rw [← hE_G62]; exact gw_up_s
  have hs63 : gw_fr (fun b => b = a) G55 G62 := by rw [← hE_G62]; exact gw_fr.up rfl
  have hf65 : gw_fr (fun b => b = a) G G62 := gw_fr.tr hf60 (by rw [← hE_G62]; exact gw_fr.up rfl)
  have hmi := hmi.up (a := a) (K' := (kx (.inr (6, [.int 0, .ref q1, .ref q14, .ref q27, .ref q40, .ref q53, .null, .null, .null, .null, .null, .null, .null, .null, .null, .null, .null, .int 0, .null, .int 0, .null, .null, .null, .int 0, .null, .null, .null, .null, .null, .null]))))
  rw [hE_G62] at hmi
  refine lv_aload_n hx hb d_Mo_init_46 rfl (lv_at hl 0 rfl) ?_
  refine lv_bipush (v := 16) hx hb d_Mo_init_47 (by decide) ?_
  refine gw_newa M hK hI (atype := .int) a_int 0 rfl (fun U cA h => h) (N' := 16) (a0 := (16, .inl (fun _ => 0))) (fun cA => rfl) (by decide) rfl (Nat.le_of_ble_eq_true rfl) (Nat.le_of_ble_eq_true rfl) (Nat.le_of_ble_eq_true rfl) (kA D 0 16 tT) (⟨_, fun _ _ => trivial, rfl⟩) d_Mo_init_49 (fun q66 H hz67 hI => ?_)
  generalize hE_G68 : gw_up G62 q66 (kA D 0 16 tT) = G68 at hI
  have hG70 : G68 q66 = some (kA D 0 16 tT) := by rw [← hE_G68]; exact gw_up_s
  have hs69 : gw_fr (fun _ => False) G62 G68 := by rw [← hE_G68]; exact gw_fr.new hz67
  have hn71 : a ≠ q66 := fun q9 => by have h9 := hG64; rw [q9, hz67] at h9; cases h9
  have hy72 : G q66 = none := by
    cases h9 : G q66 with
    | none => rfl
    | some K9 => exact absurd (hf65 q66 K9 h9 (fun e9 => hn71 e9.symm)) (by rw [hz67]; exact fun h => by cases h)
  have hf73 : gw_fr (fun b => b = a) G G68 := gw_fr.tr hf65 (by rw [← hE_G68]; exact gw_fr.new hz67)
  have hmi := hmi.new (K' := (kA D 0 16 tT)) 6 hz67
  rw [hE_G68] at hmi
  have hG74 : G68 a = some (kx (.inr (6, [.int 0, .ref q1, .ref q14, .ref q27, .ref q40, .ref q53, .null, .null, .null, .null, .null, .null, .null, .null, .null, .null, .null, .int 0, .null, .int 0, .null, .null, .null, .int 0, .null, .null, .null, .null, .null, .null]))) := (hs69 a _ hG64 (fun h => h))
  refine gw_putF M hK hI hG74 i_Mo t_Mo tk_Mo n_Mo rfl 6 (by decide) f_Mo_26 rfl hin rfl rfl (kx (.inr (6, [.int 0, .ref q1, .ref q14, .ref q27, .ref q40, .ref q53, .ref q66, .null, .null, .null, .null, .null, .null, .null, .null, .null, .null, .int 0, .null, .int 0, .null, .null, .null, .int 0, .null, .null, .null, .null, .null, .null]))) (fun x hx => ⟨_, hx, Nat.le_of_ble_eq_true rfl, rfl⟩) d_Mo_init_51 (fun H locs hI => ?_)
  obtain ⟨G75, hE_G75⟩ : ∃ z9, gw_up G68 a (kx (.inr (6, [.int 0, .ref q1, .ref q14, .ref q27, .ref q40, .ref q53, .ref q66, .null, .null, .null, .null, .null, .null, .null, .null, .null, .null, .int 0, .null, .int 0, .null, .null, .null, .int 0, .null, .null, .null, .null, .null, .null]))) = z9 := ⟨_, rfl⟩
  rw [hE_G75] at hI
  have hG77 : G75 a = some (kx (.inr (6, [.int 0, .ref q1, .ref q14, .ref q27, .ref q40, .ref q53, .ref q66, .null, .null, .null, .null, .null, .null, .null, .null, .null, .null, .int 0, .null, .int 0, .null, .null, .null, .int 0, .null, .null, .null, .null, .null, .null]))) := by rw [← hE_G75]; exact gw_up_s
  have hs76 : gw_fr (fun b => b = a) G68 G75 := by rw [← hE_G75]; exact gw_fr.up rfl
  have hf78 : gw_fr (fun b => b = a) G G75 := gw_fr.tr hf73 (by rw [← hE_G75]; exact gw_fr.up rfl)
  have hmi := hmi.up (a := a) (K' := (kx (.inr (6, [.int 0, .ref q1, .ref q14, .ref q27, .ref q40, .ref q53, .ref q66, .null, .null, .null, .null, .null, .null, .null, .null, .null, .null, .int 0, .null, .int 0, .null, .null, .null, .int 0, .null, .null, .null, .null, .null, .null]))))
  rw [hE_G75] at hmi
  refine lv_aload_n hx hb d_Mo_init_54 rfl (lv_at hl 0 rfl) ?_
  refine lv_bipush (v := 16) hx hb d_Mo_init_55 (by decide) ?_
  refine gw_newa M hK hI (atype := .boolean) a_boolean 2 rfl (fun U cA h => h) (N' := 16) (a0 := (16, .inl (fun _ => 0))) (fun cA => rfl) (by decide) rfl (Nat.le_of_ble_eq_true rfl) (Nat.le_of_ble_eq_true rfl) (Nat.le_of_ble_eq_true rfl) (kx (.inl (D.2 2, 16, .inl (fun _ => 0)))) rfl d_Mo_init_57 (fun q79 H hz80 hI => ?_)
  generalize hE_G81 : gw_up G75 q79 (kx (.inl (D.2 2, 16, .inl (fun _ => 0)))) = G81 at hI
  have hG83 : G81 q79 = some (kx (.inl (D.2 2, 16, .inl (fun _ => 0)))) := by rw [← hE_G81]; exact gw_up_s
  have hs82 : gw_fr (fun _ => False) G75 G81 := by rw [← hE_G81]; exact gw_fr.new hz80
  have hn84 : a ≠ q79 := fun q9 => by have h9 := hG77; rw [q9, hz80] at h9; cases h9
  have hy85 : G q79 = none := by
    cases h9 : G q79 with
    | none => rfl
    | some K9 => exact absurd (hf78 q79 K9 h9 (fun e9 => hn84 e9.symm)) (by rw [hz80]; exact fun h => by cases h)
  have hf86 : gw_fr (fun b => b = a) G G81 := gw_fr.tr hf78 (by rw [← hE_G81]; exact gw_fr.new hz80)
  have hmi := hmi.new (K' := (kx (.inl (D.2 2, 16, .inl (fun _ => 0))))) 7 hz80
  rw [hE_G81] at hmi
  have hG87 : G81 a = some (kx (.inr (6, [.int 0, .ref q1, .ref q14, .ref q27, .ref q40, .ref q53, .ref q66, .null, .null, .null, .null, .null, .null, .null, .null, .null, .null, .int 0, .null, .int 0, .null, .null, .null, .int 0, .null, .null, .null, .null, .null, .null]))) := (hs82 a _ hG77 (fun h => h))
  refine gw_putF M hK hI hG87 i_Mo t_Mo tk_Mo n_Mo rfl 7 (by decide) f_Mo_29 rfl hin rfl rfl (kx (.inr (6, [.int 0, .ref q1, .ref q14, .ref q27, .ref q40, .ref q53, .ref q66, .ref q79, .null, .null, .null, .null, .null, .null, .null, .null, .null, .int 0, .null, .int 0, .null, .null, .null, .int 0, .null, .null, .null, .null, .null, .null]))) (fun x hx => ⟨_, hx, Nat.le_of_ble_eq_true rfl, rfl⟩) d_Mo_init_59 (fun H locs hI => ?_)
  obtain ⟨G88, hE_G88⟩ : ∃ z9, gw_up G81 a (kx (.inr (6, [.int 0, .ref q1, .ref q14, .ref q27, .ref q40, .ref q53, .ref q66, .ref q79, .null, .null, .null, .null, .null, .null, .null, .null, .null, .int 0, .null, .int 0, .null, .null, .null, .int 0, .null, .null, .null, .null, .null, .null]))) = z9 := ⟨_, rfl⟩
  rw [hE_G88] at hI
  have hG90 : G88 a = some (kx (.inr (6, [.int 0, .ref q1, .ref q14, .ref q27, .ref q40, .ref q53, .ref q66, .ref q79, .null, .null, .null, .null, .null, .null, .null, .null, .null, .int 0, .null, .int 0, .null, .null, .null, .int 0, .null, .null, .null, .null, .null, .null]))) := by rw [← hE_G88]; exact gw_up_s
  have hs89 : gw_fr (fun b => b = a) G81 G88 := by rw [← hE_G88]; exact gw_fr.up rfl
  have hf91 : gw_fr (fun b => b = a) G G88 := gw_fr.tr hf86 (by rw [← hE_G88]; exact gw_fr.up rfl)
  have hmi := hmi.up (a := a) (K' := (kx (.inr (6, [.int 0, .ref q1, .ref q14, .ref q27, .ref q40, .ref q53, .ref q66, .ref q79, .null, .null, .null, .null, .null, .null, .null, .null, .null, .int 0, .null, .int 0, .null, .null, .null, .int 0, .null, .null, .null, .null, .null, .null]))))
  rw [hE_G88] at hmi
  refine lv_aload_n hx hb d_Mo_init_62 rfl (lv_at hl 0 rfl) ?_
  refine lv_bipush (v := 16) hx hb d_Mo_init_63 (by decide) ?_
  refine gw_newa M hK hI (atype := .long) a_long 3 rfl (fun U cA h => h) (N' := 16) (a0 := (16, .inr (.inl (fun _ => 0)))) (fun cA => rfl) (by decide) rfl (Nat.le_of_ble_eq_true rfl) (Nat.le_of_ble_eq_true rfl) (Nat.le_of_ble_eq_true rfl) (kx (.inl (D.2 3, 16, .inr (.inl (fun _ => 0))))) rfl d_Mo_init_65 (fun q92 H hz93 hI => ?_)
  generalize hE_G94 : gw_up G88 q92 (kx (.inl (D.2 3, 16, .inr (.inl (fun _ => 0))))) = G94 at hI
  have hG96 : G94 q92 = some (kx (.inl (D.2 3, 16, .inr (.inl (fun _ => 0))))) := by rw [← hE_G94]; exact gw_up_s
  have hs95 : gw_fr (fun _ => False) G88 G94 := by rw [← hE_G94]; exact gw_fr.new hz93
  have hn97 : a ≠ q92 := fun q9 => by have h9 := hG90; rw [q9, hz93] at h9; cases h9
  have hy98 : G q92 = none := by
    cases h9 : G q92 with
    | none => rfl
    | some K9 => exact absurd (hf91 q92 K9 h9 (fun e9 => hn97 e9.symm)) (by rw [hz93]; exact fun h => by cases h)
  have hf99 : gw_fr (fun b => b = a) G G94 := gw_fr.tr hf91 (by rw [← hE_G94]; exact gw_fr.new hz93)
  have hmi := hmi.new (K' := (kx (.inl (D.2 3, 16, .inr (.inl (fun _ => 0)))))) 8 hz93
  rw [hE_G94] at hmi
  have hG100 : G94 a = some (kx (.inr (6, [.int 0, .ref q1, .ref q14, .ref q27, .ref q40, .ref q53, .ref q66, .ref q79, .null, .null, .null, .null, .null, .null, .null, .null, .null, .int 0, .null, .int 0, .null, .null, .null, .int 0, .null, .null, .null, .null, .null, .null]))) := (hs95 a _ hG90 (fun h => h))
  refine gw_putF M hK hI hG100 i_Mo t_Mo tk_Mo n_Mo rfl 8 (by decide) f_Mo_32 rfl hin rfl rfl (kx (.inr (6, [.int 0, .ref q1, .ref q14, .ref q27, .ref q40, .ref q53, .ref q66, .ref q79, .ref q92, .null, .null, .null, .null, .null, .null, .null, .null, .int 0, .null, .int 0, .null, .null, .null, .int 0, .null, .null, .null, .null, .null, .null]))) (fun x hx => ⟨_, hx, Nat.le_of_ble_eq_true rfl, rfl⟩) d_Mo_init_67 (fun H locs hI => ?_)
  obtain ⟨G101, hE_G101⟩ : ∃ z9, gw_up G94 a (kx (.inr (6, [.int 0, .ref q1, .ref q14, .ref q27, .ref q40, .ref q53, .ref q66, .ref q79, .ref q92, .null, .null, .null, .null, .null, .null, .null, .null, .int 0, .null, .int 0, .null, .null, .null, .int 0, .null, .null, .null, .null, .null, .null]))) = z9 := ⟨_, rfl⟩
  rw [hE_G101] at hI
  have hG103 : G101 a = some (kx (.inr (6, [.int 0, .ref q1, .ref q14, .ref q27, .ref q40, .ref q53, .ref q66, .ref q79, .ref q92, .null, .null, .null, .null, .null, .null, .null, .null, .int 0, .null, .int 0, .null, .null, .null, .int 0, .null, .null, .null, .null, .null, .null]))) := by rw [← hE_G101]; exact gw_up_s
  have hs102 : gw_fr (fun b => b = a) G94 G101 := by rw [← hE_G101]; exact gw_fr.up rfl
  have hf104 : gw_fr (fun b => b = a) G G101 := gw_fr.tr hf99 (by rw [← hE_G101]; exact gw_fr.up rfl)
  have hmi := hmi.up (a := a) (K' := (kx (.inr (6, [.int 0, .ref q1, .ref q14, .ref q27, .ref q40, .ref q53, .ref q66, .ref q79, .ref q92, .null, .null, .null, .null, .null, .null, .null, .null, .int 0, .null, .int 0, .null, .null, .null, .int 0, .null, .null, .null, .null, .null, .null]))))
  rw [hE_G101] at hmi
  refine lv_aload_n hx hb d_Mo_init_70 rfl (lv_at hl 0 rfl) ?_
  refine lv_bipush (v := 16) hx hb d_Mo_init_71 (by decide) ?_
  refine gw_newa M hK hI (atype := .int) a_int 0 rfl (fun U cA h => h) (N' := 16) (a0 := (16, .inl (fun _ => 0))) (fun cA => rfl) (by decide) rfl (Nat.le_of_ble_eq_true rfl) (Nat.le_of_ble_eq_true rfl) (Nat.le_of_ble_eq_true rfl) (kx (.inl (D.2 0, 16, .inl (fun _ => 0)))) rfl d_Mo_init_73 (fun q105 H hz106 hI => ?_)
  generalize hE_G107 : gw_up G101 q105 (kx (.inl (D.2 0, 16, .inl (fun _ => 0)))) = G107 at hI
  have hG109 : G107 q105 = some (kx (.inl (D.2 0, 16, .inl (fun _ => 0)))) := by rw [← hE_G107]; exact gw_up_s
  have hs108 : gw_fr (fun _ => False) G101 G107 := by rw [← hE_G107]; exact gw_fr.new hz106
  have hn110 : a ≠ q105 := fun q9 => by have h9 := hG103; rw [q9, hz106] at h9; cases h9
  have hy111 : G q105 = none := by
    cases h9 : G q105 with
    | none => rfl
    | some K9 => exact absurd (hf104 q105 K9 h9 (fun e9 => hn110 e9.symm)) (by rw [hz106]; exact fun h => by cases h)
  have hf112 : gw_fr (fun b => b = a) G G107 := gw_fr.tr hf104 (by rw [← hE_G107]; exact gw_fr.new hz106)
  have hmi := hmi.new (K' := (kx (.inl (D.2 0, 16, .inl (fun _ => 0))))) 9 hz106
  rw [hE_G107] at hmi
  have hG113 : G107 a = some (kx (.inr (6, [.int 0, .ref q1, .ref q14, .ref q27, .ref q40, .ref q53, .ref q66, .ref q79, .ref q92, .null, .null, .null, .null, .null, .null, .null, .null, .int 0, .null, .int 0, .null, .null, .null, .int 0, .null, .null, .null, .null, .null, .null]))) := (hs108 a _ hG103 (fun h => h))
  refine gw_putF M hK hI hG113 i_Mo t_Mo tk_Mo n_Mo rfl 9 (by decide) f_Mo_36 rfl hin rfl rfl (kx (.inr (6, [.int 0, .ref q1, .ref q14, .ref q27, .ref q40, .ref q53, .ref q66, .ref q79, .ref q92, .ref q105, .null, .null, .null, .null, .null, .null, .null, .int 0, .null, .int 0, .null, .null, .null, .int 0, .null, .null, .null, .null, .null, .null]))) (fun x hx => ⟨_, hx, Nat.le_of_ble_eq_true rfl, rfl⟩) d_Mo_init_75 (fun H locs hI => ?_)
  obtain ⟨G114, hE_G114⟩ : ∃ z9, gw_up G107 a (kx (.inr (6, [.int 0, .ref q1, .ref q14, .ref q27, .ref q40, .ref q53, .ref q66, .ref q79, .ref q92, .ref q105, .null, .null, .null, .null, .null, .null, .null, .int 0, .null, .int 0, .null, .null, .null, .int 0, .null, .null, .null, .null, .null, .null]))) = z9 := ⟨_, rfl⟩
  rw [hE_G114] at hI
  have hG116 : G114 a = some (kx (.inr (6, [.int 0, .ref q1, .ref q14, .ref q27, .ref q40, .ref q53, .ref q66, .ref q79, .ref q92, .ref q105, .null, .null, .null, .null, .null, .null, .null, .int 0, .null, .int 0, .null, .null, .null, .int 0, .null, .null, .null, .null, .null, .null]))) := by rw [← hE_G114]; exact gw_up_s
  have hs115 : gw_fr (fun b => b = a) G107 G114 := by rw [← hE_G114]; exact gw_fr.up rfl
  have hf117 : gw_fr (fun b => b = a) G G114 := gw_fr.tr hf112 (by rw [← hE_G114]; exact gw_fr.up rfl)
  have hmi := hmi.up (a := a) (K' := (kx (.inr (6, [.int 0, .ref q1, .ref q14, .ref q27, .ref q40, .ref q53, .ref q66, .ref q79, .ref q92, .ref q105, .null, .null, .null, .null, .null, .null, .null, .int 0, .null, .int 0, .null, .null, .null, .int 0, .null, .null, .null, .null, .null, .null]))))
  rw [hE_G114] at hmi
  refine lv_aload_n hx hb d_Mo_init_78 rfl (lv_at hl 0 rfl) ?_
  refine lv_bipush (v := 16) hx hb d_Mo_init_79 (by decide) ?_
  refine gw_newa M hK hI (atype := .long) a_long 3 rfl (fun U cA h => h) (N' := 16) (a0 := (16, .inr (.inl (fun _ => 0)))) (fun cA => rfl) (by decide) rfl (Nat.le_of_ble_eq_true rfl) (Nat.le_of_ble_eq_true rfl) (Nat.le_of_ble_eq_true rfl) (kL D 16 tU) (⟨_, fun _ _ => trivial, rfl⟩) d_Mo_init_81 (fun q118 H hz119 hI => ?_)
  generalize hE_G120 : gw_up G114 q118 (kL D 16 tU) = G120 at hI
  have hG122 : G120 q118 = some (kL D 16 tU) := by rw [← hE_G120]; exact gw_up_s
  have hs121 : gw_fr (fun _ => False) G114 G120 := by rw [← hE_G120]; exact gw_fr.new hz119
  have hn123 : a ≠ q118 := fun q9 => by have h9 := hG116; rw [q9, hz119] at h9; cases h9
  have hy124 : G q118 = none := by
    cases h9 : G q118 with
    | none => rfl
    | some K9 => exact absurd (hf117 q118 K9 h9 (fun e9 => hn123 e9.symm)) (by rw [hz119]; exact fun h => by cases h)
  have hf125 : gw_fr (fun b => b = a) G G120 := gw_fr.tr hf117 (by rw [← hE_G120]; exact gw_fr.new hz119)
  have hmi := hmi.new (K' := (kL D 16 tU)) 10 hz119
  rw [hE_G120] at hmi
  have hG126 : G120 a = some (kx (.inr (6, [.int 0, .ref q1, .ref q14, .ref q27, .ref q40, .ref q53, .ref q66, .ref q79, .ref q92, .ref q105, .null, .null, .null, .null, .null, .null, .null, .int 0, .null, .int 0, .null, .null, .null, .int 0, .null, .null, .null, .null, .null, .null]))) := (hs121 a _ hG116 (fun h => h))
  refine gw_putF M hK hI hG126 i_Mo t_Mo tk_Mo n_Mo rfl 10 (by decide) f_Mo_39 rfl hin rfl rfl (kx (.inr (6, [.int 0, .ref q1, .ref q14, .ref q27, .ref q40, .ref q53, .ref q66, .ref q79, .ref q92, .ref q105, .ref q118, .null, .null, .null, .null, .null, .null, .int 0, .null, .int 0, .null, .null, .null, .int 0, .null, .null, .null, .null, .null, .null]))) (fun x hx => ⟨_, hx, Nat.le_of_ble_eq_true rfl, rfl⟩) d_Mo_init_83 (fun H locs hI => ?_)
  obtain ⟨G127, hE_G127⟩ : ∃ z9, gw_up G120 a (kx (.inr (6, [.int 0, .ref q1, .ref q14, .ref q27, .ref q40, .ref q53, .ref q66, .ref q79, .ref q92, .ref q105, .ref q118, .null, .null, .null, .null, .null, .null, .int 0, .null, .int 0, .null, .null, .null, .int 0, .null, .null, .null, .null, .null, .null]))) = z9 := ⟨_, rfl⟩
  rw [hE_G127] at hI
  have hG129 : G127 a = some (kx (.inr (6, [.int 0, .ref q1, .ref q14, .ref q27, .ref q40, .ref q53, .ref q66, .ref q79, .ref q92, .ref q105, .ref q118, .null, .null, .null, .null, .null, .null, .int 0, .null, .int 0, .null, .null, .null, .int 0, .null, .null, .null, .null, .null, .null]))) := by rw [← hE_G127]; exact gw_up_s
  have hs128 : gw_fr (fun b => b = a) G120 G127 := by rw [← hE_G127]; exact gw_fr.up rfl
  have hf130 : gw_fr (fun b => b = a) G G127 := gw_fr.tr hf125 (by rw [← hE_G127]; exact gw_fr.up rfl)
  have hmi := hmi.up (a := a) (K' := (kx (.inr (6, [.int 0, .ref q1, .ref q14, .ref q27, .ref q40, .ref q53, .ref q66, .ref q79, .ref q92, .ref q105, .ref q118, .null, .null, .null, .null, .null, .null, .int 0, .null, .int 0, .null, .null, .null, .int 0, .null, .null, .null, .null, .null, .null]))))
  rw [hE_G127] at hmi
  refine lv_aload_n hx hb d_Mo_init_86 rfl (lv_at hl 0 rfl) ?_
  refine lv_bipush (v := 16) hx hb d_Mo_init_87 (by decide) ?_
  refine gw_newa M hK hI (atype := .long) a_long 3 rfl (fun U cA h => h) (N' := 16) (a0 := (16, .inr (.inl (fun _ => 0)))) (fun cA => rfl) (by decide) rfl (Nat.le_of_ble_eq_true rfl) (Nat.le_of_ble_eq_true rfl) (Nat.le_of_ble_eq_true rfl) (kL D 16 tU) (⟨_, fun _ _ => trivial, rfl⟩) d_Mo_init_89 (fun q131 H hz132 hI => ?_)
  generalize hE_G133 : gw_up G127 q131 (kL D 16 tU) = G133 at hI
  have hG135 : G133 q131 = some (kL D 16 tU) := by rw [← hE_G133]; exact gw_up_s
  have hs134 : gw_fr (fun _ => False) G127 G133 := by rw [← hE_G133]; exact gw_fr.new hz132
  have hn136 : a ≠ q131 := fun q9 => by have h9 := hG129; rw [q9, hz132] at h9; cases h9
  have hy137 : G q131 = none := by
    cases h9 : G q131 with
    | none => rfl
    | some K9 => exact absurd (hf130 q131 K9 h9 (fun e9 => hn136 e9.symm)) (by rw [hz132]; exact fun h => by cases h)
  have hf138 : gw_fr (fun b => b = a) G G133 := gw_fr.tr hf130 (by rw [← hE_G133]; exact gw_fr.new hz132)
  have hmi := hmi.new (K' := (kL D 16 tU)) 11 hz132
  rw [hE_G133] at hmi
  have hG139 : G133 a = some (kx (.inr (6, [.int 0, .ref q1, .ref q14, .ref q27, .ref q40, .ref q53, .ref q66, .ref q79, .ref q92, .ref q105, .ref q118, .null, .null, .null, .null, .null, .null, .int 0, .null, .int 0, .null, .null, .null, .int 0, .null, .null, .null, .null, .null, .null]))) := (hs134 a _ hG129 (fun h => h))
  refine gw_putF M hK hI hG139 i_Mo t_Mo tk_Mo n_Mo rfl 11 (by decide) f_Mo_42 rfl hin rfl rfl (kx (.inr (6, [.int 0, .ref q1, .ref q14, .ref q27, .ref q40, .ref q53, .ref q66, .ref q79, .ref q92, .ref q105, .ref q118, .ref q131, .null, .null, .null, .null, .null, .int 0, .null, .int 0, .null, .null, .null, .int 0, .null, .null, .null, .null, .null, .null]))) (fun x hx => ⟨_, hx, Nat.le_of_ble_eq_true rfl, rfl⟩) d_Mo_init_91 (fun H locs hI => ?_)
  obtain ⟨G140, hE_G140⟩ : ∃ z9, gw_up G133 a (kx (.inr (6, [.int 0, .ref q1, .ref q14, .ref q27, .ref q40, .ref q53, .ref q66, .ref q79, .ref q92, .ref q105, .ref q118, .ref q131, .null, .null, .null, .null, .null, .int 0, .null, .int 0, .null, .null, .null, .int 0, .null, .null, .null, .null, .null, .null]))) = z9 := ⟨_, rfl⟩
  rw [hE_G140] at hI
  have hG142 : G140 a = some (kx (.inr (6, [.int 0, .ref q1, .ref q14, .ref q27, .ref q40, .ref q53, .ref q66, .ref q79, .ref q92, .ref q105, .ref q118, .ref q131, .null, .null, .null, .null, .null, .int 0, .null, .int 0, .null, .null, .null, .int 0, .null, .null, .null, .null, .null, .null]))) := by rw [← hE_G140]; exact gw_up_s
  have hs141 : gw_fr (fun b => b = a) G133 G140 := by rw [← hE_G140]; exact gw_fr.up rfl
  have hf143 : gw_fr (fun b => b = a) G G140 := gw_fr.tr hf138 (by rw [← hE_G140]; exact gw_fr.up rfl)
  have hmi := hmi.up (a := a) (K' := (kx (.inr (6, [.int 0, .ref q1, .ref q14, .ref q27, .ref q40, .ref q53, .ref q66, .ref q79, .ref q92, .ref q105, .ref q118, .ref q131, .null, .null, .null, .null, .null, .int 0, .null, .int 0, .null, .null, .null, .int 0, .null, .null, .null, .null, .null, .null]))))
  rw [hE_G140] at hmi
  refine lv_aload_n hx hb d_Mo_init_94 rfl (lv_at hl 0 rfl) ?_
  refine lv_bipush (v := 16) hx hb d_Mo_init_95 (by decide) ?_
  refine gw_newa M hK hI (atype := .int) a_int 0 rfl (fun U cA h => h) (N' := 16) (a0 := (16, .inl (fun _ => 0))) (fun cA => rfl) (by decide) rfl (Nat.le_of_ble_eq_true rfl) (Nat.le_of_ble_eq_true rfl) (Nat.le_of_ble_eq_true rfl) (kA D 0 16 tT) (⟨_, fun _ _ => trivial, rfl⟩) d_Mo_init_97 (fun q144 H hz145 hI => ?_)
  generalize hE_G146 : gw_up G140 q144 (kA D 0 16 tT) = G146 at hI
  have hG148 : G146 q144 = some (kA D 0 16 tT) := by rw [← hE_G146]; exact gw_up_s
  have hs147 : gw_fr (fun _ => False) G140 G146 := by rw [← hE_G146]; exact gw_fr.new hz145
  have hn149 : a ≠ q144 := fun q9 => by have h9 := hG142; rw [q9, hz145] at h9; cases h9
  have hy150 : G q144 = none := by
    cases h9 : G q144 with
    | none => rfl
    | some K9 => exact absurd (hf143 q144 K9 h9 (fun e9 => hn149 e9.symm)) (by rw [hz145]; exact fun h => by cases h)
  have hf151 : gw_fr (fun b => b = a) G G146 := gw_fr.tr hf143 (by rw [← hE_G146]; exact gw_fr.new hz145)
  have hmi := hmi.new (K' := (kA D 0 16 tT)) 12 hz145
  rw [hE_G146] at hmi
  have hG152 : G146 a = some (kx (.inr (6, [.int 0, .ref q1, .ref q14, .ref q27, .ref q40, .ref q53, .ref q66, .ref q79, .ref q92, .ref q105, .ref q118, .ref q131, .null, .null, .null, .null, .null, .int 0, .null, .int 0, .null, .null, .null, .int 0, .null, .null, .null, .null, .null, .null]))) := (hs147 a _ hG142 (fun h => h))
  refine gw_putF M hK hI hG152 i_Mo t_Mo tk_Mo n_Mo rfl 12 (by decide) f_Mo_45 rfl hin rfl rfl (kx (.inr (6, [.int 0, .ref q1, .ref q14, .ref q27, .ref q40, .ref q53, .ref q66, .ref q79, .ref q92, .ref q105, .ref q118, .ref q131, .ref q144, .null, .null, .null, .null, .int 0, .null, .int 0, .null, .null, .null, .int 0, .null, .null, .null, .null, .null, .null]))) (fun x hx => ⟨_, hx, Nat.le_of_ble_eq_true rfl, rfl⟩) d_Mo_init_99 (fun H locs hI => ?_)
  obtain ⟨G153, hE_G153⟩ : ∃ z9, gw_up G146 a (kx (.inr (6, [.int 0, .ref q1, .ref q14, .ref q27, .ref q40, .ref q53, .ref q66, .ref q79, .ref q92, .ref q105, .ref q118, .ref q131, .ref q144, .null, .null, .null, .null, .int 0, .null, .int 0, .null, .null, .null, .int 0, .null, .null, .null, .null, .null, .null]))) = z9 := ⟨_, rfl⟩
  rw [hE_G153] at hI
  have hG155 : G153 a = some (kx (.inr (6, [.int 0, .ref q1, .ref q14, .ref q27, .ref q40, .ref q53, .ref q66, .ref q79, .ref q92, .ref q105, .ref q118, .ref q131, .ref q144, .null, .null, .null, .null, .int 0, .null, .int 0, .null, .null, .null, .int 0, .null, .null, .null, .null, .null, .null]))) := by rw [← hE_G153]; exact gw_up_s
  have hs154 : gw_fr (fun b => b = a) G146 G153 := by rw [← hE_G153]; exact gw_fr.up rfl
  have hf156 : gw_fr (fun b => b = a) G G153 := gw_fr.tr hf151 (by rw [← hE_G153]; exact gw_fr.up rfl)
  have hmi := hmi.up (a := a) (K' := (kx (.inr (6, [.int 0, .ref q1, .ref q14, .ref q27, .ref q40, .ref q53, .ref q66, .ref q79, .ref q92, .ref q105, .ref q118, .ref q131, .ref q144, .null, .null, .null, .null, .int 0, .null, .int 0, .null, .null, .null, .int 0, .null, .null, .null, .null, .null, .null]))))
  rw [hE_G153] at hmi
  refine lv_aload_n hx hb d_Mo_init_102 rfl (lv_at hl 0 rfl) ?_
  refine lv_bipush (v := 16) hx hb d_Mo_init_103 (by decide) ?_
  refine gw_newa M hK hI (atype := .int) a_int 0 rfl (fun U cA h => h) (N' := 16) (a0 := (16, .inl (fun _ => 0))) (fun cA => rfl) (by decide) rfl (Nat.le_of_ble_eq_true rfl) (Nat.le_of_ble_eq_true rfl) (Nat.le_of_ble_eq_true rfl) (kA D 0 16 tT) (⟨_, fun _ _ => trivial, rfl⟩) d_Mo_init_105 (fun q157 H hz158 hI => ?_)
  generalize hE_G159 : gw_up G153 q157 (kA D 0 16 tT) = G159 at hI
  have hG161 : G159 q157 = some (kA D 0 16 tT) := by rw [← hE_G159]; exact gw_up_s
  have hs160 : gw_fr (fun _ => False) G153 G159 := by rw [← hE_G159]; exact gw_fr.new hz158
  have hn162 : a ≠ q157 := fun q9 => by have h9 := hG155; rw [q9, hz158] at h9; cases h9
  have hy163 : G q157 = none := by
    cases h9 : G q157 with
    | none => rfl
    | some K9 => exact absurd (hf156 q157 K9 h9 (fun e9 => hn162 e9.symm)) (by rw [hz158]; exact fun h => by cases h)
  have hf164 : gw_fr (fun b => b = a) G G159 := gw_fr.tr hf156 (by rw [← hE_G159]; exact gw_fr.new hz158)
  have hmi := hmi.new (K' := (kA D 0 16 tT)) 13 hz158
  rw [hE_G159] at hmi
  have hG165 : G159 a = some (kx (.inr (6, [.int 0, .ref q1, .ref q14, .ref q27, .ref q40, .ref q53, .ref q66, .ref q79, .ref q92, .ref q105, .ref q118, .ref q131, .ref q144, .null, .null, .null, .null, .int 0, .null, .int 0, .null, .null, .null, .int 0, .null, .null, .null, .null, .null, .null]))) := (hs160 a _ hG155 (fun h => h))
  refine gw_putF M hK hI hG165 i_Mo t_Mo tk_Mo n_Mo rfl 13 (by decide) f_Mo_48 rfl hin rfl rfl (kx (.inr (6, [.int 0, .ref q1, .ref q14, .ref q27, .ref q40, .ref q53, .ref q66, .ref q79, .ref q92, .ref q105, .ref q118, .ref q131, .ref q144, .ref q157, .null, .null, .null, .int 0, .null, .int 0, .null, .null, .null, .int 0, .null, .null, .null, .null, .null, .null]))) (fun x hx => ⟨_, hx, Nat.le_of_ble_eq_true rfl, rfl⟩) d_Mo_init_107 (fun H locs hI => ?_)
  obtain ⟨G166, hE_G166⟩ : ∃ z9, gw_up G159 a (kx (.inr (6, [.int 0, .ref q1, .ref q14, .ref q27, .ref q40, .ref q53, .ref q66, .ref q79, .ref q92, .ref q105, .ref q118, .ref q131, .ref q144, .ref q157, .null, .null, .null, .int 0, .null, .int 0, .null, .null, .null, .int 0, .null, .null, .null, .null, .null, .null]))) = z9 := ⟨_, rfl⟩
  rw [hE_G166] at hI
  have hG168 : G166 a = some (kx (.inr (6, [.int 0, .ref q1, .ref q14, .ref q27, .ref q40, .ref q53, .ref q66, .ref q79, .ref q92, .ref q105, .ref q118, .ref q131, .ref q144, .ref q157, .null, .null, .null, .int 0, .null, .int 0, .null, .null, .null, .int 0, .null, .null, .null, .null, .null, .null]))) := by rw [← hE_G166]; exact gw_up_s
  have hs167 : gw_fr (fun b => b = a) G159 G166 := by rw [← hE_G166]; exact gw_fr.up rfl
  have hf169 : gw_fr (fun b => b = a) G G166 := gw_fr.tr hf164 (by rw [← hE_G166]; exact gw_fr.up rfl)
  have hmi := hmi.up (a := a) (K' := (kx (.inr (6, [.int 0, .ref q1, .ref q14, .ref q27, .ref q40, .ref q53, .ref q66, .ref q79, .ref q92, .ref q105, .ref q118, .ref q131, .ref q144, .ref q157, .null, .null, .null, .int 0, .null, .int 0, .null, .null, .null, .int 0, .null, .null, .null, .null, .null, .null]))))
  rw [hE_G166] at hmi
  refine lv_aload_n hx hb d_Mo_init_110 rfl (lv_at hl 0 rfl) ?_
  refine lv_sipush (v := 17600) hx hb d_Mo_init_111 (by decide) ?_
  refine gw_newa M hK hI (atype := .long) a_long 3 rfl (fun U cA h => h) (N' := 17600) (a0 := (17600, .inr (.inl (fun _ => 0)))) (fun cA => rfl) (by decide) rfl (Nat.le_of_ble_eq_true rfl) (Nat.le_of_ble_eq_true rfl) (Nat.le_of_ble_eq_true rfl) (kL D 17600 tU) (⟨_, fun _ _ => trivial, rfl⟩) d_Mo_init_114 (fun q170 H hz171 hI => ?_)
  generalize hE_G172 : gw_up G166 q170 (kL D 17600 tU) = G172 at hI
  have hG174 : G172 q170 = some (kL D 17600 tU) := by rw [← hE_G172]; exact gw_up_s
  have hs173 : gw_fr (fun _ => False) G166 G172 := by rw [← hE_G172]; exact gw_fr.new hz171
  have hn175 : a ≠ q170 := fun q9 => by have h9 := hG168; rw [q9, hz171] at h9; cases h9
  have hy176 : G q170 = none := by
    cases h9 : G q170 with
    | none => rfl
    | some K9 => exact absurd (hf169 q170 K9 h9 (fun e9 => hn175 e9.symm)) (by rw [hz171]; exact fun h => by cases h)
  have hf177 : gw_fr (fun b => b = a) G G172 := gw_fr.tr hf169 (by rw [← hE_G172]; exact gw_fr.new hz171)
  have hmi := hmi.new (K' := (kL D 17600 tU)) 14 hz171
  rw [hE_G172] at hmi
  have hG178 : G172 a = some (kx (.inr (6, [.int 0, .ref q1, .ref q14, .ref q27, .ref q40, .ref q53, .ref q66, .ref q79, .ref q92, .ref q105, .ref q118, .ref q131, .ref q144, .ref q157, .null, .null, .null, .int 0, .null, .int 0, .null, .null, .null, .int 0, .null, .null, .null, .null, .null, .null]))) := (hs173 a _ hG168 (fun h => h))
  refine gw_putF M hK hI hG178 i_Mo t_Mo tk_Mo n_Mo rfl 14 (by decide) f_Mo_51 rfl hin rfl rfl (kx (.inr (6, [.int 0, .ref q1, .ref q14, .ref q27, .ref q40, .ref q53, .ref q66, .ref q79, .ref q92, .ref q105, .ref q118, .ref q131, .ref q144, .ref q157, .ref q170, .null, .null, .int 0, .null, .int 0, .null, .null, .null, .int 0, .null, .null, .null, .null, .null, .null]))) (fun x hx => ⟨_, hx, Nat.le_of_ble_eq_true rfl, rfl⟩) d_Mo_init_116 (fun H locs hI => ?_)
  obtain ⟨G179, hE_G179⟩ : ∃ z9, gw_up G172 a (kx (.inr (6, [.int 0, .ref q1, .ref q14, .ref q27, .ref q40, .ref q53, .ref q66, .ref q79, .ref q92, .ref q105, .ref q118, .ref q131, .ref q144, .ref q157, .ref q170, .null, .null, .int 0, .null, .int 0, .null, .null, .null, .int 0, .null, .null, .null, .null, .null, .null]))) = z9 := ⟨_, rfl⟩
  rw [hE_G179] at hI
  have hG181 : G179 a = some (kx (.inr (6, [.int 0, .ref q1, .ref q14, .ref q27, .ref q40, .ref q53, .ref q66, .ref q79, .ref q92, .ref q105, .ref q118, .ref q131, .ref q144, .ref q157, .ref q170, .null, .null, .int 0, .null, .int 0, .null, .null, .null, .int 0, .null, .null, .null, .null, .null, .null]))) := by rw [← hE_G179]; exact gw_up_s
  have hs180 : gw_fr (fun b => b = a) G172 G179 := by rw [← hE_G179]; exact gw_fr.up rfl
  have hf182 : gw_fr (fun b => b = a) G G179 := gw_fr.tr hf177 (by rw [← hE_G179]; exact gw_fr.up rfl)
  have hmi := hmi.up (a := a) (K' := (kx (.inr (6, [.int 0, .ref q1, .ref q14, .ref q27, .ref q40, .ref q53, .ref q66, .ref q79, .ref q92, .ref q105, .ref q118, .ref q131, .ref q144, .ref q157, .ref q170, .null, .null, .int 0, .null, .int 0, .null, .null, .null, .int 0, .null, .null, .null, .null, .null, .null]))))
  rw [hE_G179] at hmi
  refine lv_aload_n hx hb d_Mo_init_119 rfl (lv_at hl 0 rfl) ?_
  refine lv_bipush (v := 16) hx hb d_Mo_init_120 (by decide) ?_
  refine gw_newa M hK hI (atype := .int) a_int 0 rfl (fun U cA h => h) (N' := 16) (a0 := (16, .inl (fun _ => 0))) (fun cA => rfl) (by decide) rfl (Nat.le_of_ble_eq_true rfl) (Nat.le_of_ble_eq_true rfl) (Nat.le_of_ble_eq_true rfl) (kA D 0 16 (leN 0)) (⟨_, fun _ _ => ⟨0, Nat.le_refl _, rfl⟩, rfl⟩) d_Mo_init_122 (fun q183 H hz184 hI => ?_)
  generalize hE_G185 : gw_up G179 q183 (kA D 0 16 (leN 0)) = G185 at hI
  have hG187 : G185 q183 = some (kA D 0 16 (leN 0)) := by rw [← hE_G185]; exact gw_up_s
  have hs186 : gw_fr (fun _ => False) G179 G185 := by rw [← hE_G185]; exact gw_fr.new hz184
  have hn188 : a ≠ q183 := fun q9 => by have h9 := hG181; rw [q9, hz184] at h9; cases h9
  have hy189 : G q183 = none := by
    cases h9 : G q183 with
    | none => rfl
    | some K9 => exact absurd (hf182 q183 K9 h9 (fun e9 => hn188 e9.symm)) (by rw [hz184]; exact fun h => by cases h)
  have hf190 : gw_fr (fun b => b = a) G G185 := gw_fr.tr hf182 (by rw [← hE_G185]; exact gw_fr.new hz184)
  have hmi := hmi.new (K' := (kA D 0 16 (leN 0))) 15 hz184
  rw [hE_G185] at hmi
  have hG191 : G185 a = some (kx (.inr (6, [.int 0, .ref q1, .ref q14, .ref q27, .ref q40, .ref q53, .ref q66, .ref q79, .ref q92, .ref q105, .ref q118, .ref q131, .ref q144, .ref q157, .ref q170, .null, .null, .int 0, .null, .int 0, .null, .null, .null, .int 0, .null, .null, .null, .null, .null, .null]))) := (hs186 a _ hG181 (fun h => h))
  refine gw_putF M hK hI hG191 i_Mo t_Mo tk_Mo n_Mo rfl 15 (by decide) f_Mo_54 rfl hin rfl rfl (kx (.inr (6, [.int 0, .ref q1, .ref q14, .ref q27, .ref q40, .ref q53, .ref q66, .ref q79, .ref q92, .ref q105, .ref q118, .ref q131, .ref q144, .ref q157, .ref q170, .ref q183, .null, .int 0, .null, .int 0, .null, .null, .null, .int 0, .null, .null, .null, .null, .null, .null]))) (fun x hx => ⟨_, hx, Nat.le_of_ble_eq_true rfl, rfl⟩) d_Mo_init_124 (fun H locs hI => ?_)
  obtain ⟨G192, hE_G192⟩ : ∃ z9, gw_up G185 a (kx (.inr (6, [.int 0, .ref q1, .ref q14, .ref q27, .ref q40, .ref q53, .ref q66, .ref q79, .ref q92, .ref q105, .ref q118, .ref q131, .ref q144, .ref q157, .ref q170, .ref q183, .null, .int 0, .null, .int 0, .null, .null, .null, .int 0, .null, .null, .null, .null, .null, .null]))) = z9 := ⟨_, rfl⟩
  rw [hE_G192] at hI
  have hG194 : G192 a = some (kx (.inr (6, [.int 0, .ref q1, .ref q14, .ref q27, .ref q40, .ref q53, .ref q66, .ref q79, .ref q92, .ref q105, .ref q118, .ref q131, .ref q144, .ref q157, .ref q170, .ref q183, .null, .int 0, .null, .int 0, .null, .null, .null, .int 0, .null, .null, .null, .null, .null, .null]))) := by rw [← hE_G192]; exact gw_up_s
  have hs193 : gw_fr (fun b => b = a) G185 G192 := by rw [← hE_G192]; exact gw_fr.up rfl
  have hf195 : gw_fr (fun b => b = a) G G192 := gw_fr.tr hf190 (by rw [← hE_G192]; exact gw_fr.up rfl)
  have hmi := hmi.up (a := a) (K' := (kx (.inr (6, [.int 0, .ref q1, .ref q14, .ref q27, .ref q40, .ref q53, .ref q66, .ref q79, .ref q92, .ref q105, .ref q118, .ref q131, .ref q144, .ref q157, .ref q170, .ref q183, .null, .int 0, .null, .int 0, .null, .null, .null, .int 0, .null, .null, .null, .null, .null, .null]))))
  rw [hE_G192] at hmi
  refine lv_aload_n hx hb d_Mo_init_127 rfl (lv_at hl 0 rfl) ?_
  refine lv_sipush (v := 200) hx hb d_Mo_init_128 (by decide) ?_
  refine gw_newa M hK hI (atype := .int) a_int 0 rfl (fun U cA h => h) (N' := 200) (a0 := (200, .inl (fun _ => 0))) (fun cA => rfl) (by decide) rfl (Nat.le_of_ble_eq_true rfl) (Nat.le_of_ble_eq_true rfl) (Nat.le_of_ble_eq_true rfl) (kA D 0 200 by8) (⟨_, fun _ _ => (show uN 0 < 256 by decide), rfl⟩) d_Mo_init_131 (fun q196 H hz197 hI => ?_)
  generalize hE_G198 : gw_up G192 q196 (kA D 0 200 by8) = G198 at hI
  have hG200 : G198 q196 = some (kA D 0 200 by8) := by rw [← hE_G198]; exact gw_up_s
  have hs199 : gw_fr (fun _ => False) G192 G198 := by rw [← hE_G198]; exact gw_fr.new hz197
  have hn201 : a ≠ q196 := fun q9 => by have h9 := hG194; rw [q9, hz197] at h9; cases h9
  have hy202 : G q196 = none := by
    cases h9 : G q196 with
    | none => rfl
    | some K9 => exact absurd (hf195 q196 K9 h9 (fun e9 => hn201 e9.symm)) (by rw [hz197]; exact fun h => by cases h)
  have hf203 : gw_fr (fun b => b = a) G G198 := gw_fr.tr hf195 (by rw [← hE_G198]; exact gw_fr.new hz197)
  have hmi := hmi.new (K' := (kA D 0 200 by8)) 16 hz197
  rw [hE_G198] at hmi
  have hG204 : G198 a = some (kx (.inr (6, [.int 0, .ref q1, .ref q14, .ref q27, .ref q40, .ref q53, .ref q66, .ref q79, .ref q92, .ref q105, .ref q118, .ref q131, .ref q144, .ref q157, .ref q170, .ref q183, .null, .int 0, .null, .int 0, .null, .null, .null, .int 0, .null, .null, .null, .null, .null, .null]))) := (hs199 a _ hG194 (fun h => h))
  refine gw_putF M hK hI hG204 i_Mo t_Mo tk_Mo n_Mo rfl 16 (by decide) f_Mo_57 rfl hin rfl rfl (kx (.inr (6, [.int 0, .ref q1, .ref q14, .ref q27, .ref q40, .ref q53, .ref q66, .ref q79, .ref q92, .ref q105, .ref q118, .ref q131, .ref q144, .ref q157, .ref q170, .ref q183, .ref q196, .int 0, .null, .int 0, .null, .null, .null, .int 0, .null, .null, .null, .null, .null, .null]))) (fun x hx => ⟨_, hx, Nat.le_of_ble_eq_true rfl, rfl⟩) d_Mo_init_133 (fun H locs hI => ?_)
  obtain ⟨G205, hE_G205⟩ : ∃ z9, gw_up G198 a (kx (.inr (6, [.int 0, .ref q1, .ref q14, .ref q27, .ref q40, .ref q53, .ref q66, .ref q79, .ref q92, .ref q105, .ref q118, .ref q131, .ref q144, .ref q157, .ref q170, .ref q183, .ref q196, .int 0, .null, .int 0, .null, .null, .null, .int 0, .null, .null, .null, .null, .null, .null]))) = z9 := ⟨_, rfl⟩
  rw [hE_G205] at hI
  have hG207 : G205 a = some (kx (.inr (6, [.int 0, .ref q1, .ref q14, .ref q27, .ref q40, .ref q53, .ref q66, .ref q79, .ref q92, .ref q105, .ref q118, .ref q131, .ref q144, .ref q157, .ref q170, .ref q183, .ref q196, .int 0, .null, .int 0, .null, .null, .null, .int 0, .null, .null, .null, .null, .null, .null]))) := by rw [← hE_G205]; exact gw_up_s
  have hs206 : gw_fr (fun b => b = a) G198 G205 := by rw [← hE_G205]; exact gw_fr.up rfl
  have hf208 : gw_fr (fun b => b = a) G G205 := gw_fr.tr hf203 (by rw [← hE_G205]; exact gw_fr.up rfl)
  have hmi := hmi.up (a := a) (K' := (kx (.inr (6, [.int 0, .ref q1, .ref q14, .ref q27, .ref q40, .ref q53, .ref q66, .ref q79, .ref q92, .ref q105, .ref q118, .ref q131, .ref q144, .ref q157, .ref q170, .ref q183, .ref q196, .int 0, .null, .int 0, .null, .null, .null, .int 0, .null, .null, .null, .null, .null, .null]))))
  rw [hE_G205] at hmi
  refine lv_aload_n hx hb d_Mo_init_136 rfl (lv_at hl 0 rfl) ?_
  refine lv_sipush (v := 240) hx hb d_Mo_init_137 (by decide) ?_
  refine gw_newa M hK hI (atype := .int) a_int 0 rfl (fun U cA h => h) (N' := 240) (a0 := (240, .inl (fun _ => 0))) (fun cA => rfl) (by decide) rfl (Nat.le_of_ble_eq_true rfl) (Nat.le_of_ble_eq_true rfl) (Nat.le_of_ble_eq_true rfl) (kA D 0 240 by8) (⟨_, fun _ _ => (show uN 0 < 256 by decide), rfl⟩) d_Mo_init_140 (fun q209 H hz210 hI => ?_)
  generalize hE_G211 : gw_up G205 q209 (kA D 0 240 by8) = G211 at hI
  have hG213 : G211 q209 = some (kA D 0 240 by8) := by rw [← hE_G211]; exact gw_up_s
  have hs212 : gw_fr (fun _ => False) G205 G211 := by rw [← hE_G211]; exact gw_fr.new hz210
  have hn214 : a ≠ q209 := fun q9 => by have h9 := hG207; rw [q9, hz210] at h9; cases h9
  have hy215 : G q209 = none := by
    cases h9 : G q209 with
    | none => rfl
    | some K9 => exact absurd (hf208 q209 K9 h9 (fun e9 => hn214 e9.symm)) (by rw [hz210]; exact fun h => by cases h)
  have hf216 : gw_fr (fun b => b = a) G G211 := gw_fr.tr hf208 (by rw [← hE_G211]; exact gw_fr.new hz210)
  have hmi := hmi.new (K' := (kA D 0 240 by8)) 18 hz210
  rw [hE_G211] at hmi
  have hG217 : G211 a = some (kx (.inr (6, [.int 0, .ref q1, .ref q14, .ref q27, .ref q40, .ref q53, .ref q66, .ref q79, .ref q92, .ref q105, .ref q118, .ref q131, .ref q144, .ref q157, .ref q170, .ref q183, .ref q196, .int 0, .null, .int 0, .null, .null, .null, .int 0, .null, .null, .null, .null, .null, .null]))) := (hs212 a _ hG207 (fun h => h))
  refine gw_putF M hK hI hG217 i_Mo t_Mo tk_Mo n_Mo rfl 18 (by decide) f_Mo_60 rfl hin rfl rfl (kx (.inr (6, [.int 0, .ref q1, .ref q14, .ref q27, .ref q40, .ref q53, .ref q66, .ref q79, .ref q92, .ref q105, .ref q118, .ref q131, .ref q144, .ref q157, .ref q170, .ref q183, .ref q196, .int 0, .ref q209, .int 0, .null, .null, .null, .int 0, .null, .null, .null, .null, .null, .null]))) (fun x hx => ⟨_, hx, Nat.le_of_ble_eq_true rfl, rfl⟩) d_Mo_init_142 (fun H locs hI => ?_)
  obtain ⟨G218, hE_G218⟩ : ∃ z9, gw_up G211 a (kx (.inr (6, [.int 0, .ref q1, .ref q14, .ref q27, .ref q40, .ref q53, .ref q66, .ref q79, .ref q92, .ref q105, .ref q118, .ref q131, .ref q144, .ref q157, .ref q170, .ref q183, .ref q196, .int 0, .ref q209, .int 0, .null, .null, .null, .int 0, .null, .null, .null, .null, .null, .null]))) = z9 := ⟨_, rfl⟩
  rw [hE_G218] at hI
  have hG220 : G218 a = some (kx (.inr (6, [.int 0, .ref q1, .ref q14, .ref q27, .ref q40, .ref q53, .ref q66, .ref q79, .ref q92, .ref q105, .ref q118, .ref q131, .ref q144, .ref q157, .ref q170, .ref q183, .ref q196, .int 0, .ref q209, .int 0, .null, .null, .null, .int 0, .null, .null, .null, .null, .null, .null]))) := by rw [← hE_G218]; exact gw_up_s
  have hs219 : gw_fr (fun b => b = a) G211 G218 := by rw [← hE_G218]; exact gw_fr.up rfl
  have hf221 : gw_fr (fun b => b = a) G G218 := gw_fr.tr hf216 (by rw [← hE_G218]; exact gw_fr.up rfl)
  have hmi := hmi.up (a := a) (K' := (kx (.inr (6, [.int 0, .ref q1, .ref q14, .ref q27, .ref q40, .ref q53, .ref q66, .ref q79, .ref q92, .ref q105, .ref q118, .ref q131, .ref q144, .ref q157, .ref q170, .ref q183, .ref q196, .int 0, .ref q209, .int 0, .null, .null, .null, .int 0, .null, .null, .null, .null, .null, .null]))))
  rw [hE_G218] at hmi
  refine lv_aload_n hx hb d_Mo_init_145 rfl (lv_at hl 0 rfl) ?_
  refine lv_sipush (v := 1920) hx hb d_Mo_init_146 (by decide) ?_
  refine gw_newa M hK hI (atype := .int) a_int 0 rfl (fun U cA h => h) (N' := 1920) (a0 := (1920, .inl (fun _ => 0))) (fun cA => rfl) (by decide) rfl (Nat.le_of_ble_eq_true rfl) (Nat.le_of_ble_eq_true rfl) (Nat.le_of_ble_eq_true rfl) (kA D 0 1920 by8) (⟨_, fun _ _ => (show uN 0 < 256 by decide), rfl⟩) d_Mo_init_149 (fun q222 H hz223 hI => ?_)
  generalize hE_G224 : gw_up G218 q222 (kA D 0 1920 by8) = G224 at hI
  have hG226 : G224 q222 = some (kA D 0 1920 by8) := by rw [← hE_G224]; exact gw_up_s
  have hs225 : gw_fr (fun _ => False) G218 G224 := by rw [← hE_G224]; exact gw_fr.new hz223
  have hn227 : a ≠ q222 := fun q9 => by have h9 := hG220; rw [q9, hz223] at h9; cases h9
  have hy228 : G q222 = none := by
    cases h9 : G q222 with
    | none => rfl
    | some K9 => exact absurd (hf221 q222 K9 h9 (fun e9 => hn227 e9.symm)) (by rw [hz223]; exact fun h => by cases h)
  have hf229 : gw_fr (fun b => b = a) G G224 := gw_fr.tr hf221 (by rw [← hE_G224]; exact gw_fr.new hz223)
  have hmi := hmi.new (K' := (kA D 0 1920 by8)) 20 hz223
  rw [hE_G224] at hmi
  have hG230 : G224 a = some (kx (.inr (6, [.int 0, .ref q1, .ref q14, .ref q27, .ref q40, .ref q53, .ref q66, .ref q79, .ref q92, .ref q105, .ref q118, .ref q131, .ref q144, .ref q157, .ref q170, .ref q183, .ref q196, .int 0, .ref q209, .int 0, .null, .null, .null, .int 0, .null, .null, .null, .null, .null, .null]))) := (hs225 a _ hG220 (fun h => h))
  refine gw_putF M hK hI hG230 i_Mo t_Mo tk_Mo n_Mo rfl 20 (by decide) f_Mo_63 rfl hin rfl rfl (kx (.inr (6, [.int 0, .ref q1, .ref q14, .ref q27, .ref q40, .ref q53, .ref q66, .ref q79, .ref q92, .ref q105, .ref q118, .ref q131, .ref q144, .ref q157, .ref q170, .ref q183, .ref q196, .int 0, .ref q209, .int 0, .ref q222, .null, .null, .int 0, .null, .null, .null, .null, .null, .null]))) (fun x hx => ⟨_, hx, Nat.le_of_ble_eq_true rfl, rfl⟩) d_Mo_init_151 (fun H locs hI => ?_)
  obtain ⟨G231, hE_G231⟩ : ∃ z9, gw_up G224 a (kx (.inr (6, [.int 0, .ref q1, .ref q14, .ref q27, .ref q40, .ref q53, .ref q66, .ref q79, .ref q92, .ref q105, .ref q118, .ref q131, .ref q144, .ref q157, .ref q170, .ref q183, .ref q196, .int 0, .ref q209, .int 0, .ref q222, .null, .null, .int 0, .null, .null, .null, .null, .null, .null]))) = z9 := ⟨_, rfl⟩
  rw [hE_G231] at hI
  have hG233 : G231 a = some (kx (.inr (6, [.int 0, .ref q1, .ref q14, .ref q27, .ref q40, .ref q53, .ref q66, .ref q79, .ref q92, .ref q105, .ref q118, .ref q131, .ref q144, .ref q157, .ref q170, .ref q183, .ref q196, .int 0, .ref q209, .int 0, .ref q222, .null, .null, .int 0, .null, .null, .null, .null, .null, .null]))) := by rw [← hE_G231]; exact gw_up_s
  have hs232 : gw_fr (fun b => b = a) G224 G231 := by rw [← hE_G231]; exact gw_fr.up rfl
  have hf234 : gw_fr (fun b => b = a) G G231 := gw_fr.tr hf229 (by rw [← hE_G231]; exact gw_fr.up rfl)
  have hmi := hmi.up (a := a) (K' := (kx (.inr (6, [.int 0, .ref q1, .ref q14, .ref q27, .ref q40, .ref q53, .ref q66, .ref q79, .ref q92, .ref q105, .ref q118, .ref q131, .ref q144, .ref q157, .ref q170, .ref q183, .ref q196, .int 0, .ref q209, .int 0, .ref q222, .null, .null, .int 0, .null, .null, .null, .null, .null, .null]))))
  rw [hE_G231] at hmi
  refine lv_aload_n hx hb d_Mo_init_154 rfl (lv_at hl 0 rfl) ?_
  refine lv_bipush (v := 8) hx hb d_Mo_init_155 (by decide) ?_
  refine gw_newa M hK hI (atype := .int) a_int 0 rfl (fun U cA h => h) (N' := 8) (a0 := (8, .inl (fun _ => 0))) (fun cA => rfl) (by decide) rfl (Nat.le_of_ble_eq_true rfl) (Nat.le_of_ble_eq_true rfl) (Nat.le_of_ble_eq_true rfl) (kx (.inl (D.2 0, 8, .inl (fun _ => 0)))) rfl d_Mo_init_157 (fun q235 H hz236 hI => ?_)
  generalize hE_G237 : gw_up G231 q235 (kx (.inl (D.2 0, 8, .inl (fun _ => 0)))) = G237 at hI
  have hG239 : G237 q235 = some (kx (.inl (D.2 0, 8, .inl (fun _ => 0)))) := by rw [← hE_G237]; exact gw_up_s
  have hs238 : gw_fr (fun _ => False) G231 G237 := by rw [← hE_G237]; exact gw_fr.new hz236
  have hn240 : a ≠ q235 := fun q9 => by have h9 := hG233; rw [q9, hz236] at h9; cases h9
  have hy241 : G q235 = none := by
    cases h9 : G q235 with
    | none => rfl
    | some K9 => exact absurd (hf234 q235 K9 h9 (fun e9 => hn240 e9.symm)) (by rw [hz236]; exact fun h => by cases h)
  have hf242 : gw_fr (fun b => b = a) G G237 := gw_fr.tr hf234 (by rw [← hE_G237]; exact gw_fr.new hz236)
  have hmi := hmi.new (K' := (kx (.inl (D.2 0, 8, .inl (fun _ => 0))))) 21 hz236
  rw [hE_G237] at hmi
  refine lv_dup hx hb d_Mo_init_159 rfl ?_
  refine lv_iconst (v := 0) hx hb d_Mo_init_160 (by decide) ?_
  refine lv_iconst (v := (-1)) hx hb d_Mo_init_161 (by decide) ?_
  refine gw_iastx M hK hI hG239 (vp_in_nI (n := 0) (by decide) (by decide)) d_Mo_init_162 (fun H locs hI => ?_)
  obtain ⟨G243, hE_G243⟩ : ∃ z9, gw_up G237 q235 (kx (.inl (D.2 0, 8, .inl (upd (fun _ => 0) ((0 : Int32)).toNatClampNeg (-1 : Int32))))) = z9 := ⟨_, rfl⟩
  rw [hE_G243] at hI
  have hG245 : G243 q235 = some (kx (.inl (D.2 0, 8, .inl (upd (fun _ => 0) ((0 : Int32)).toNatClampNeg (-1 : Int32))))) := by rw [← hE_G243]; exact gw_up_s
  have hs244 : gw_fr (fun b => b = q235) G237 G243 := by rw [← hE_G243]; exact gw_fr.up rfl
  have hf246 : gw_fr (fun b => b = a) G G243 := gw_fr.fresh hf242 hy241 (by rw [← hE_G243]; exact gw_fr.up rfl)
  have hmi := hmi.up (a := q235) (K' := (kx (.inl (D.2 0, 8, .inl (upd (fun _ => 0) ((0 : Int32)).toNatClampNeg (-1 : Int32))))))
  rw [hE_G243] at hmi
  refine lv_dup hx hb d_Mo_init_163 rfl ?_
  refine lv_iconst (v := 1) hx hb d_Mo_init_164 (by decide) ?_
  refine lv_iconst (v := (-1)) hx hb d_Mo_init_165 (by decide) ?_
  refine gw_iastx M hK hI hG245 (vp_in_nI (n := 1) (by decide) (by decide)) d_Mo_init_166 (fun H locs hI => ?_)
  obtain ⟨G247, hE_G247⟩ : ∃ z9, gw_up G243 q235 (kx (.inl (D.2 0, 8, .inl (upd (upd (fun _ => 0) ((0 : Int32)).toNatClampNeg (-1 : Int32)) ((1 : Int32)).toNatClampNeg (-1 : Int32))))) = z9 := ⟨_, rfl⟩
  rw [hE_G247] at hI
  have hG249 : G247 q235 = some (kx (.inl (D.2 0, 8, .inl (upd (upd (fun _ => 0) ((0 : Int32)).toNatClampNeg (-1 : Int32)) ((1 : Int32)).toNatClampNeg (-1 : Int32))))) := by rw [← hE_G247]; exact gw_up_s
  have hs248 : gw_fr (fun b => b = q235) G243 G247 := by rw [← hE_G247]; exact gw_fr.up rfl
  have hf250 : gw_fr (fun b => b = a) G G247 := gw_fr.fresh hf246 hy241 (by rw [← hE_G247]; exact gw_fr.up rfl)
  have hmi := hmi.up (a := q235) (K' := (kx (.inl (D.2 0, 8, .inl (upd (upd (fun _ => 0) ((0 : Int32)).toNatClampNeg (-1 : Int32)) ((1 : Int32)).toNatClampNeg (-1 : Int32))))))
  rw [hE_G247] at hmi
  refine lv_dup hx hb d_Mo_init_167 rfl ?_
  refine lv_iconst (v := 2) hx hb d_Mo_init_168 (by decide) ?_
  refine lv_iconst (v := (-1)) hx hb d_Mo_init_169 (by decide) ?_
  refine gw_iastx M hK hI hG249 (vp_in_nI (n := 2) (by decide) (by decide)) d_Mo_init_170 (fun H locs hI => ?_)
  obtain ⟨G251, hE_G251⟩ : ∃ z9, gw_up G247 q235 (kx (.inl (D.2 0, 8, .inl (upd (upd (upd (fun _ => 0) ((0 : Int32)).toNatClampNeg (-1 : Int32)) ((1 : Int32)).toNatClampNeg (-1 : Int32)) ((2 : Int32)).toNatClampNeg (-1 : Int32))))) = z9 := ⟨_, rfl⟩
  rw [hE_G251] at hI
  have hG253 : G251 q235 = some (kx (.inl (D.2 0, 8, .inl (upd (upd (upd (fun _ => 0) ((0 : Int32)).toNatClampNeg (-1 : Int32)) ((1 : Int32)).toNatClampNeg (-1 : Int32)) ((2 : Int32)).toNatClampNeg (-1 : Int32))))) := by rw [← hE_G251]; exact gw_up_s
  have hs252 : gw_fr (fun b => b = q235) G247 G251 := by rw [← hE_G251]; exact gw_fr.up rfl
  have hf254 : gw_fr (fun b => b = a) G G251 := gw_fr.fresh hf250 hy241 (by rw [← hE_G251]; exact gw_fr.up rfl)
  have hmi := hmi.up (a := q235) (K' := (kx (.inl (D.2 0, 8, .inl (upd (upd (upd (fun _ => 0) ((0 : Int32)).toNatClampNeg (-1 : Int32)) ((1 : Int32)).toNatClampNeg (-1 : Int32)) ((2 : Int32)).toNatClampNeg (-1 : Int32))))))
  rw [hE_G251] at hmi
  refine lv_dup hx hb d_Mo_init_171 rfl ?_
  refine lv_iconst (v := 3) hx hb d_Mo_init_172 (by decide) ?_
  refine lv_iconst (v := (-1)) hx hb d_Mo_init_173 (by decide) ?_
  refine gw_iastx M hK hI hG253 (vp_in_nI (n := 3) (by decide) (by decide)) d_Mo_init_174 (fun H locs hI => ?_)
  obtain ⟨G255, hE_G255⟩ : ∃ z9, gw_up G251 q235 (kx (.inl (D.2 0, 8, .inl (upd (upd (upd (upd (fun _ => 0) ((0 : Int32)).toNatClampNeg (-1 : Int32)) ((1 : Int32)).toNatClampNeg (-1 : Int32)) ((2 : Int32)).toNatClampNeg (-1 : Int32)) ((3 : Int32)).toNatClampNeg (-1 : Int32))))) = z9 := ⟨_, rfl⟩
  rw [hE_G255] at hI
  have hG257 : G255 q235 = some (kx (.inl (D.2 0, 8, .inl (upd (upd (upd (upd (fun _ => 0) ((0 : Int32)).toNatClampNeg (-1 : Int32)) ((1 : Int32)).toNatClampNeg (-1 : Int32)) ((2 : Int32)).toNatClampNeg (-1 : Int32)) ((3 : Int32)).toNatClampNeg (-1 : Int32))))) := by rw [← hE_G255]; exact gw_up_s
  have hs256 : gw_fr (fun b => b = q235) G251 G255 := by rw [← hE_G255]; exact gw_fr.up rfl
  have hf258 : gw_fr (fun b => b = a) G G255 := gw_fr.fresh hf254 hy241 (by rw [← hE_G255]; exact gw_fr.up rfl)
  have hmi := hmi.up (a := q235) (K' := (kx (.inl (D.2 0, 8, .inl (upd (upd (upd (upd (fun _ => 0) ((0 : Int32)).toNatClampNeg (-1 : Int32)) ((1 : Int32)).toNatClampNeg (-1 : Int32)) ((2 : Int32)).toNatClampNeg (-1 : Int32)) ((3 : Int32)).toNatClampNeg (-1 : Int32))))))
  rw [hE_G255] at hmi
  refine lv_dup hx hb d_Mo_init_175 rfl ?_
  refine lv_iconst (v := 4) hx hb d_Mo_init_176 (by decide) ?_
  refine lv_iconst (v := (-1)) hx hb d_Mo_init_177 (by decide) ?_
  refine gw_iastx M hK hI hG257 (vp_in_nI (n := 4) (by decide) (by decide)) d_Mo_init_178 (fun H locs hI => ?_)
  obtain ⟨G259, hE_G259⟩ : ∃ z9, gw_up G255 q235 (kx (.inl (D.2 0, 8, .inl (upd (upd (upd (upd (upd (fun _ => 0) ((0 : Int32)).toNatClampNeg (-1 : Int32)) ((1 : Int32)).toNatClampNeg (-1 : Int32)) ((2 : Int32)).toNatClampNeg (-1 : Int32)) ((3 : Int32)).toNatClampNeg (-1 : Int32)) ((4 : Int32)).toNatClampNeg (-1 : Int32))))) = z9 := ⟨_, rfl⟩
  rw [hE_G259] at hI
  have hG261 : G259 q235 = some (kx (.inl (D.2 0, 8, .inl (upd (upd (upd (upd (upd (fun _ => 0) ((0 : Int32)).toNatClampNeg (-1 : Int32)) ((1 : Int32)).toNatClampNeg (-1 : Int32)) ((2 : Int32)).toNatClampNeg (-1 : Int32)) ((3 : Int32)).toNatClampNeg (-1 : Int32)) ((4 : Int32)).toNatClampNeg (-1 : Int32))))) := by rw [← hE_G259]; exact gw_up_s
  have hs260 : gw_fr (fun b => b = q235) G255 G259 := by rw [← hE_G259]; exact gw_fr.up rfl
  have hf262 : gw_fr (fun b => b = a) G G259 := gw_fr.fresh hf258 hy241 (by rw [← hE_G259]; exact gw_fr.up rfl)
  have hmi := hmi.up (a := q235) (K' := (kx (.inl (D.2 0, 8, .inl (upd (upd (upd (upd (upd (fun _ => 0) ((0 : Int32)).toNatClampNeg (-1 : Int32)) ((1 : Int32)).toNatClampNeg (-1 : Int32)) ((2 : Int32)).toNatClampNeg (-1 : Int32)) ((3 : Int32)).toNatClampNeg (-1 : Int32)) ((4 : Int32)).toNatClampNeg (-1 : Int32))))))
  rw [hE_G259] at hmi
  refine lv_dup hx hb d_Mo_init_179 rfl ?_
  refine lv_iconst (v := 5) hx hb d_Mo_init_180 (by decide) ?_
  refine lv_iconst (v := (-1)) hx hb d_Mo_init_181 (by decide) ?_
  refine gw_iastx M hK hI hG261 (vp_in_nI (n := 5) (by decide) (by decide)) d_Mo_init_182 (fun H locs hI => ?_)
  obtain ⟨G263, hE_G263⟩ : ∃ z9, gw_up G259 q235 (kx (.inl (D.2 0, 8, .inl (upd (upd (upd (upd (upd (upd (fun _ => 0) ((0 : Int32)).toNatClampNeg (-1 : Int32)) ((1 : Int32)).toNatClampNeg (-1 : Int32)) ((2 : Int32)).toNatClampNeg (-1 : Int32)) ((3 : Int32)).toNatClampNeg (-1 : Int32)) ((4 : Int32)).toNatClampNeg (-1 : Int32)) ((5 : Int32)).toNatClampNeg (-1 : Int32))))) = z9 := ⟨_, rfl⟩
  rw [hE_G263] at hI
  have hG265 : G263 q235 = some (kx (.inl (D.2 0, 8, .inl (upd (upd (upd (upd (upd (upd (fun _ => 0) ((0 : Int32)).toNatClampNeg (-1 : Int32)) ((1 : Int32)).toNatClampNeg (-1 : Int32)) ((2 : Int32)).toNatClampNeg (-1 : Int32)) ((3 : Int32)).toNatClampNeg (-1 : Int32)) ((4 : Int32)).toNatClampNeg (-1 : Int32)) ((5 : Int32)).toNatClampNeg (-1 : Int32))))) := by rw [← hE_G263]; exact gw_up_s
  have hs264 : gw_fr (fun b => b = q235) G259 G263 := by rw [← hE_G263]; exact gw_fr.up rfl
  have hf266 : gw_fr (fun b => b = a) G G263 := gw_fr.fresh hf262 hy241 (by rw [← hE_G263]; exact gw_fr.up rfl)
  have hmi := hmi.up (a := q235) (K' := (kx (.inl (D.2 0, 8, .inl (upd (upd (upd (upd (upd (upd (fun _ => 0) ((0 : Int32)).toNatClampNeg (-1 : Int32)) ((1 : Int32)).toNatClampNeg (-1 : Int32)) ((2 : Int32)).toNatClampNeg (-1 : Int32)) ((3 : Int32)).toNatClampNeg (-1 : Int32)) ((4 : Int32)).toNatClampNeg (-1 : Int32)) ((5 : Int32)).toNatClampNeg (-1 : Int32))))))
  rw [hE_G263] at hmi
  refine lv_dup hx hb d_Mo_init_183 rfl ?_
  refine lv_bipush (v := 6) hx hb d_Mo_init_184 (by decide) ?_
  refine lv_iconst (v := (-1)) hx hb d_Mo_init_186 (by decide) ?_
  refine gw_iastx M hK hI hG265 (vp_in_nI (n := 6) (by decide) (by decide)) d_Mo_init_187 (fun H locs hI => ?_)
  obtain ⟨G267, hE_G267⟩ : ∃ z9, gw_up G263 q235 (kx (.inl (D.2 0, 8, .inl (upd (upd (upd (upd (upd (upd (upd (fun _ => 0) ((0 : Int32)).toNatClampNeg (-1 : Int32)) ((1 : Int32)).toNatClampNeg (-1 : Int32)) ((2 : Int32)).toNatClampNeg (-1 : Int32)) ((3 : Int32)).toNatClampNeg (-1 : Int32)) ((4 : Int32)).toNatClampNeg (-1 : Int32)) ((5 : Int32)).toNatClampNeg (-1 : Int32)) ((6 : Int32)).toNatClampNeg (-1 : Int32))))) = z9 := ⟨_, rfl⟩
  rw [hE_G267] at hI
  have hG269 : G267 q235 = some (kx (.inl (D.2 0, 8, .inl (upd (upd (upd (upd (upd (upd (upd (fun _ => 0) ((0 : Int32)).toNatClampNeg (-1 : Int32)) ((1 : Int32)).toNatClampNeg (-1 : Int32)) ((2 : Int32)).toNatClampNeg (-1 : Int32)) ((3 : Int32)).toNatClampNeg (-1 : Int32)) ((4 : Int32)).toNatClampNeg (-1 : Int32)) ((5 : Int32)).toNatClampNeg (-1 : Int32)) ((6 : Int32)).toNatClampNeg (-1 : Int32))))) := by rw [← hE_G267]; exact gw_up_s
  have hs268 : gw_fr (fun b => b = q235) G263 G267 := by rw [← hE_G267]; exact gw_fr.up rfl
  have hf270 : gw_fr (fun b => b = a) G G267 := gw_fr.fresh hf266 hy241 (by rw [← hE_G267]; exact gw_fr.up rfl)
  have hmi := hmi.up (a := q235) (K' := (kx (.inl (D.2 0, 8, .inl (upd (upd (upd (upd (upd (upd (upd (fun _ => 0) ((0 : Int32)).toNatClampNeg (-1 : Int32)) ((1 : Int32)).toNatClampNeg (-1 : Int32)) ((2 : Int32)).toNatClampNeg (-1 : Int32)) ((3 : Int32)).toNatClampNeg (-1 : Int32)) ((4 : Int32)).toNatClampNeg (-1 : Int32)) ((5 : Int32)).toNatClampNeg (-1 : Int32)) ((6 : Int32)).toNatClampNeg (-1 : Int32))))))
  rw [hE_G267] at hmi
  refine lv_dup hx hb d_Mo_init_188 rfl ?_
  refine lv_bipush (v := 7) hx hb d_Mo_init_189 (by decide) ?_
  refine lv_iconst (v := (-1)) hx hb d_Mo_init_191 (by decide) ?_
  refine gw_iastx M hK hI hG269 (vp_in_nI (n := 7) (by decide) (by decide)) d_Mo_init_192 (fun H locs hI => ?_)
  obtain ⟨G271, hE_G271⟩ : ∃ z9, gw_up G267 q235 (kx (.inl (D.2 0, 8, .inl (upd (upd (upd (upd (upd (upd (upd (upd (fun _ => 0) ((0 : Int32)).toNatClampNeg (-1 : Int32)) ((1 : Int32)).toNatClampNeg (-1 : Int32)) ((2 : Int32)).toNatClampNeg (-1 : Int32)) ((3 : Int32)).toNatClampNeg (-1 : Int32)) ((4 : Int32)).toNatClampNeg (-1 : Int32)) ((5 : Int32)).toNatClampNeg (-1 : Int32)) ((6 : Int32)).toNatClampNeg (-1 : Int32)) ((7 : Int32)).toNatClampNeg (-1 : Int32))))) = z9 := ⟨_, rfl⟩
  rw [hE_G271] at hI
  have hG273 : G271 q235 = some (kx (.inl (D.2 0, 8, .inl (upd (upd (upd (upd (upd (upd (upd (upd (fun _ => 0) ((0 : Int32)).toNatClampNeg (-1 : Int32)) ((1 : Int32)).toNatClampNeg (-1 : Int32)) ((2 : Int32)).toNatClampNeg (-1 : Int32)) ((3 : Int32)).toNatClampNeg (-1 : Int32)) ((4 : Int32)).toNatClampNeg (-1 : Int32)) ((5 : Int32)).toNatClampNeg (-1 : Int32)) ((6 : Int32)).toNatClampNeg (-1 : Int32)) ((7 : Int32)).toNatClampNeg (-1 : Int32))))) := by rw [← hE_G271]; exact gw_up_s
  have hs272 : gw_fr (fun b => b = q235) G267 G271 := by rw [← hE_G271]; exact gw_fr.up rfl
  have hf274 : gw_fr (fun b => b = a) G G271 := gw_fr.fresh hf270 hy241 (by rw [← hE_G271]; exact gw_fr.up rfl)
  have hmi := hmi.up (a := q235) (K' := (kx (.inl (D.2 0, 8, .inl (upd (upd (upd (upd (upd (upd (upd (upd (fun _ => 0) ((0 : Int32)).toNatClampNeg (-1 : Int32)) ((1 : Int32)).toNatClampNeg (-1 : Int32)) ((2 : Int32)).toNatClampNeg (-1 : Int32)) ((3 : Int32)).toNatClampNeg (-1 : Int32)) ((4 : Int32)).toNatClampNeg (-1 : Int32)) ((5 : Int32)).toNatClampNeg (-1 : Int32)) ((6 : Int32)).toNatClampNeg (-1 : Int32)) ((7 : Int32)).toNatClampNeg (-1 : Int32))))))
  rw [hE_G271] at hmi
  have hI := hI.soft (K' := (kA D 0 8 okS)) hG273 (fun e h => ⟨_, fun j hj => Or.inl (ks_all j hj), h⟩)
  obtain ⟨G275, hE_G275⟩ : ∃ z9, gw_up G271 q235 (kA D 0 8 okS) = z9 := ⟨_, rfl⟩
  rw [hE_G275] at hI
  have hG277 : G275 q235 = some (kA D 0 8 okS) := by rw [← hE_G275]; exact gw_up_s
  have hs276 : gw_fr (fun b => b = q235) G271 G275 := by rw [← hE_G275]; exact gw_fr.up rfl
  have hf278 : gw_fr (fun b => b = a) G G275 := gw_fr.fresh hf274 hy241 (by rw [← hE_G275]; exact gw_fr.up rfl)
  have hmi := hmi.up (a := q235) (K' := (kA D 0 8 okS))
  rw [hE_G275] at hmi
  have hG279 : G275 a = some (kx (.inr (6, [.int 0, .ref q1, .ref q14, .ref q27, .ref q40, .ref q53, .ref q66, .ref q79, .ref q92, .ref q105, .ref q118, .ref q131, .ref q144, .ref q157, .ref q170, .ref q183, .ref q196, .int 0, .ref q209, .int 0, .ref q222, .null, .null, .int 0, .null, .null, .null, .null, .null, .null]))) := (hs276 a _ (hs272 a _ (hs268 a _ (hs264 a _ (hs260 a _ (hs256 a _ (hs252 a _ (hs248 a _ (hs244 a _ (hs238 a _ hG233 (fun h => h)) hn240) hn240) hn240) hn240) hn240) hn240) hn240) hn240) hn240)
  refine gw_putF M hK hI hG279 i_Mo t_Mo tk_Mo n_Mo rfl 21 (by decide) f_Mo_66 rfl hin rfl rfl (kx (.inr (6, [.int 0, .ref q1, .ref q14, .ref q27, .ref q40, .ref q53, .ref q66, .ref q79, .ref q92, .ref q105, .ref q118, .ref q131, .ref q144, .ref q157, .ref q170, .ref q183, .ref q196, .int 0, .ref q209, .int 0, .ref q222, .ref q235, .null, .int 0, .null, .null, .null, .null, .null, .null]))) (fun x hx => ⟨_, hx, Nat.le_of_ble_eq_true rfl, rfl⟩) d_Mo_init_193 (fun H locs hI => ?_)
  obtain ⟨G280, hE_G280⟩ : ∃ z9, gw_up G275 a (kx (.inr (6, [.int 0, .ref q1, .ref q14, .ref q27, .ref q40, .ref q53, .ref q66, .ref q79, .ref q92, .ref q105, .ref q118, .ref q131, .ref q144, .ref q157, .ref q170, .ref q183, .ref q196, .int 0, .ref q209, .int 0, .ref q222, .ref q235, .null, .int 0, .null, .null, .null, .null, .null, .null]))) = z9 := ⟨_, rfl⟩
  rw [hE_G280] at hI
  have hG282 : G280 a = some (kx (.inr (6, [.int 0, .ref q1, .ref q14, .ref q27, .ref q40, .ref q53, .ref q66, .ref q79, .ref q92, .ref q105, .ref q118, .ref q131, .ref q144, .ref q157, .ref q170, .ref q183, .ref q196, .int 0, .ref q209, .int 0, .ref q222, .ref q235, .null, .int 0, .null, .null, .null, .null, .null, .null]))) := by rw [← hE_G280]; exact gw_up_s
  have hs281 : gw_fr (fun b => b = a) G275 G280 := by rw [← hE_G280]; exact gw_fr.up rfl
  have hf283 : gw_fr (fun b => b = a) G G280 := gw_fr.tr hf278 (by rw [← hE_G280]; exact gw_fr.up rfl)
  have hmi := hmi.up (a := a) (K' := (kx (.inr (6, [.int 0, .ref q1, .ref q14, .ref q27, .ref q40, .ref q53, .ref q66, .ref q79, .ref q92, .ref q105, .ref q118, .ref q131, .ref q144, .ref q157, .ref q170, .ref q183, .ref q196, .int 0, .ref q209, .int 0, .ref q222, .ref q235, .null, .int 0, .null, .null, .null, .null, .null, .null]))))
  rw [hE_G280] at hmi
  refine lv_aload_n hx hb d_Mo_init_196 rfl (lv_at hl 0 rfl) ?_
  refine lv_sipush (v := 240) hx hb d_Mo_init_197 (by decide) ?_
  refine gw_newa M hK hI (atype := .int) a_int 0 rfl (fun U cA h => h) (N' := 240) (a0 := (240, .inl (fun _ => 0))) (fun cA => rfl) (by decide) rfl (Nat.le_of_ble_eq_true rfl) (Nat.le_of_ble_eq_true rfl) (Nat.le_of_ble_eq_true rfl) (kA D 0 240 tT) (⟨_, fun _ _ => trivial, rfl⟩) d_Mo_init_200 (fun q284 H hz285 hI => ?_)
  generalize hE_G286 : gw_up G280 q284 (kA D 0 240 tT) = G286 at hI
  have hG288 : G286 q284 = some (kA D 0 240 tT) := by rw [← hE_G286]; exact gw_up_s
  have hs287 : gw_fr (fun _ => False) G280 G286 := by rw [← hE_G286]; exact gw_fr.new hz285
  have hn289 : a ≠ q284 := fun q9 => by have h9 := hG282; rw [q9, hz285] at h9; cases h9
  have hy290 : G q284 = none := by
    cases h9 : G q284 with
    | none => rfl
    | some K9 => exact absurd (hf283 q284 K9 h9 (fun e9 => hn289 e9.symm)) (by rw [hz285]; exact fun h => by cases h)
  have hf291 : gw_fr (fun b => b = a) G G286 := gw_fr.tr hf283 (by rw [← hE_G286]; exact gw_fr.new hz285)
  have hmi := hmi.new (K' := (kA D 0 240 tT)) 22 hz285
  rw [hE_G286] at hmi
  have hG292 : G286 a = some (kx (.inr (6, [.int 0, .ref q1, .ref q14, .ref q27, .ref q40, .ref q53, .ref q66, .ref q79, .ref q92, .ref q105, .ref q118, .ref q131, .ref q144, .ref q157, .ref q170, .ref q183, .ref q196, .int 0, .ref q209, .int 0, .ref q222, .ref q235, .null, .int 0, .null, .null, .null, .null, .null, .null]))) := (hs287 a _ hG282 (fun h => h))
  refine gw_putF M hK hI hG292 i_Mo t_Mo tk_Mo n_Mo rfl 22 (by decide) f_Mo_69 rfl hin rfl rfl (kx (.inr (6, [.int 0, .ref q1, .ref q14, .ref q27, .ref q40, .ref q53, .ref q66, .ref q79, .ref q92, .ref q105, .ref q118, .ref q131, .ref q144, .ref q157, .ref q170, .ref q183, .ref q196, .int 0, .ref q209, .int 0, .ref q222, .ref q235, .ref q284, .int 0, .null, .null, .null, .null, .null, .null]))) (fun x hx => ⟨_, hx, Nat.le_of_ble_eq_true rfl, rfl⟩) d_Mo_init_202 (fun H locs hI => ?_)
  obtain ⟨G293, hE_G293⟩ : ∃ z9, gw_up G286 a (kx (.inr (6, [.int 0, .ref q1, .ref q14, .ref q27, .ref q40, .ref q53, .ref q66, .ref q79, .ref q92, .ref q105, .ref q118, .ref q131, .ref q144, .ref q157, .ref q170, .ref q183, .ref q196, .int 0, .ref q209, .int 0, .ref q222, .ref q235, .ref q284, .int 0, .null, .null, .null, .null, .null, .null]))) = z9 := ⟨_, rfl⟩
  rw [hE_G293] at hI
  have hG295 : G293 a = some (kx (.inr (6, [.int 0, .ref q1, .ref q14, .ref q27, .ref q40, .ref q53, .ref q66, .ref q79, .ref q92, .ref q105, .ref q118, .ref q131, .ref q144, .ref q157, .ref q170, .ref q183, .ref q196, .int 0, .ref q209, .int 0, .ref q222, .ref q235, .ref q284, .int 0, .null, .null, .null, .null, .null, .null]))) := by rw [← hE_G293]; exact gw_up_s
  have hs294 : gw_fr (fun b => b = a) G286 G293 := by rw [← hE_G293]; exact gw_fr.up rfl
  have hf296 : gw_fr (fun b => b = a) G G293 := gw_fr.tr hf291 (by rw [← hE_G293]; exact gw_fr.up rfl)
  have hmi := hmi.up (a := a) (K' := (kx (.inr (6, [.int 0, .ref q1, .ref q14, .ref q27, .ref q40, .ref q53, .ref q66, .ref q79, .ref q92, .ref q105, .ref q118, .ref q131, .ref q144, .ref q157, .ref q170, .ref q183, .ref q196, .int 0, .ref q209, .int 0, .ref q222, .ref q235, .ref q284, .int 0, .null, .null, .null, .null, .null, .null]))))
  rw [hE_G293] at hmi
  refine lv_aload_n hx hb d_Mo_init_205 rfl (lv_at hl 0 rfl) ?_
  refine lv_bipush (v := 16) hx hb d_Mo_init_206 (by decide) ?_
  refine gw_newa M hK hI (atype := .int) a_int 0 rfl (fun U cA h => h) (N' := 16) (a0 := (16, .inl (fun _ => 0))) (fun cA => rfl) (by decide) rfl (Nat.le_of_ble_eq_true rfl) (Nat.le_of_ble_eq_true rfl) (Nat.le_of_ble_eq_true rfl) (kA D 0 16 by8) (⟨_, fun _ _ => (show uN 0 < 256 by decide), rfl⟩) d_Mo_init_208 (fun q297 H hz298 hI => ?_)
  generalize hE_G299 : gw_up G293 q297 (kA D 0 16 by8) = G299 at hI
  have hG301 : G299 q297 = some (kA D 0 16 by8) := by rw [← hE_G299]; exact gw_up_s
  have hs300 : gw_fr (fun _ => False) G293 G299 := by rw [← hE_G299]; exact gw_fr.new hz298
  have hn302 : a ≠ q297 := fun q9 => by have h9 := hG295; rw [q9, hz298] at h9; cases h9
  have hy303 : G q297 = none := by
    cases h9 : G q297 with
    | none => rfl
    | some K9 => exact absurd (hf296 q297 K9 h9 (fun e9 => hn302 e9.symm)) (by rw [hz298]; exact fun h => by cases h)
  have hf304 : gw_fr (fun b => b = a) G G299 := gw_fr.tr hf296 (by rw [← hE_G299]; exact gw_fr.new hz298)
  have hmi := hmi.new (K' := (kA D 0 16 by8)) 24 hz298
  rw [hE_G299] at hmi
  have hG305 : G299 a = some (kx (.inr (6, [.int 0, .ref q1, .ref q14, .ref q27, .ref q40, .ref q53, .ref q66, .ref q79, .ref q92, .ref q105, .ref q118, .ref q131, .ref q144, .ref q157, .ref q170, .ref q183, .ref q196, .int 0, .ref q209, .int 0, .ref q222, .ref q235, .ref q284, .int 0, .null, .null, .null, .null, .null, .null]))) := (hs300 a _ hG295 (fun h => h))
  refine gw_putF M hK hI hG305 i_Mo t_Mo tk_Mo n_Mo rfl 24 (by decide) f_Mo_72 rfl hin rfl rfl (kx (.inr (6, [.int 0, .ref q1, .ref q14, .ref q27, .ref q40, .ref q53, .ref q66, .ref q79, .ref q92, .ref q105, .ref q118, .ref q131, .ref q144, .ref q157, .ref q170, .ref q183, .ref q196, .int 0, .ref q209, .int 0, .ref q222, .ref q235, .ref q284, .int 0, .ref q297, .null, .null, .null, .null, .null]))) (fun x hx => ⟨_, hx, Nat.le_of_ble_eq_true rfl, rfl⟩) d_Mo_init_210 (fun H locs hI => ?_)
  obtain ⟨G306, hE_G306⟩ : ∃ z9, gw_up G299 a (kx (.inr (6, [.int 0, .ref q1, .ref q14, .ref q27, .ref q40, .ref q53, .ref q66, .ref q79, .ref q92, .ref q105, .ref q118, .ref q131, .ref q144, .ref q157, .ref q170, .ref q183, .ref q196, .int 0, .ref q209, .int 0, .ref q222, .ref q235, .ref q284, .int 0, .ref q297, .null, .null, .null, .null, .null]))) = z9 := ⟨_, rfl⟩
  rw [hE_G306] at hI
  have hG308 : G306 a = some (kx (.inr (6, [.int 0, .ref q1, .ref q14, .ref q27, .ref q40, .ref q53, .ref q66, .ref q79, .ref q92, .ref q105, .ref q118, .ref q131, .ref q144, .ref q157, .ref q170, .ref q183, .ref q196, .int 0, .ref q209, .int 0, .ref q222, .ref q235, .ref q284, .int 0, .ref q297, .null, .null, .null, .null, .null]))) := by rw [← hE_G306]; exact gw_up_s
  have hs307 : gw_fr (fun b => b = a) G299 G306 := by rw [← hE_G306]; exact gw_fr.up rfl
  have hf309 : gw_fr (fun b => b = a) G G306 := gw_fr.tr hf304 (by rw [← hE_G306]; exact gw_fr.up rfl)
  have hmi := hmi.up (a := a) (K' := (kx (.inr (6, [.int 0, .ref q1, .ref q14, .ref q27, .ref q40, .ref q53, .ref q66, .ref q79, .ref q92, .ref q105, .ref q118, .ref q131, .ref q144, .ref q157, .ref q170, .ref q183, .ref q196, .int 0, .ref q209, .int 0, .ref q222, .ref q235, .ref q284, .int 0, .ref q297, .null, .null, .null, .null, .null]))))
  rw [hE_G306] at hmi
  refine lv_aload_n hx hb d_Mo_init_213 rfl (lv_at hl 0 rfl) ?_
  refine lv_bipush (v := 16) hx hb d_Mo_init_214 (by decide) ?_
  refine gw_newa M hK hI (atype := .int) a_int 0 rfl (fun U cA h => h) (N' := 16) (a0 := (16, .inl (fun _ => 0))) (fun cA => rfl) (by decide) rfl (Nat.le_of_ble_eq_true rfl) (Nat.le_of_ble_eq_true rfl) (Nat.le_of_ble_eq_true rfl) (kA D 0 16 by8) (⟨_, fun _ _ => (show uN 0 < 256 by decide), rfl⟩) d_Mo_init_216 (fun q310 H hz311 hI => ?_)
  generalize hE_G312 : gw_up G306 q310 (kA D 0 16 by8) = G312 at hI
  have hG314 : G312 q310 = some (kA D 0 16 by8) := by rw [← hE_G312]; exact gw_up_s
  have hs313 : gw_fr (fun _ => False) G306 G312 := by rw [← hE_G312]; exact gw_fr.new hz311
  have hn315 : a ≠ q310 := fun q9 => by have h9 := hG308; rw [q9, hz311] at h9; cases h9
  have hy316 : G q310 = none := by
    cases h9 : G q310 with
    | none => rfl
    | some K9 => exact absurd (hf309 q310 K9 h9 (fun e9 => hn315 e9.symm)) (by rw [hz311]; exact fun h => by cases h)
  have hf317 : gw_fr (fun b => b = a) G G312 := gw_fr.tr hf309 (by rw [← hE_G312]; exact gw_fr.new hz311)
  have hmi := hmi.new (K' := (kA D 0 16 by8)) 25 hz311
  rw [hE_G312] at hmi
  have hG318 : G312 a = some (kx (.inr (6, [.int 0, .ref q1, .ref q14, .ref q27, .ref q40, .ref q53, .ref q66, .ref q79, .ref q92, .ref q105, .ref q118, .ref q131, .ref q144, .ref q157, .ref q170, .ref q183, .ref q196, .int 0, .ref q209, .int 0, .ref q222, .ref q235, .ref q284, .int 0, .ref q297, .null, .null, .null, .null, .null]))) := (hs313 a _ hG308 (fun h => h))
  refine gw_putF M hK hI hG318 i_Mo t_Mo tk_Mo n_Mo rfl 25 (by decide) f_Mo_75 rfl hin rfl rfl (kx (.inr (6, [.int 0, .ref q1, .ref q14, .ref q27, .ref q40, .ref q53, .ref q66, .ref q79, .ref q92, .ref q105, .ref q118, .ref q131, .ref q144, .ref q157, .ref q170, .ref q183, .ref q196, .int 0, .ref q209, .int 0, .ref q222, .ref q235, .ref q284, .int 0, .ref q297, .ref q310, .null, .null, .null, .null]))) (fun x hx => ⟨_, hx, Nat.le_of_ble_eq_true rfl, rfl⟩) d_Mo_init_218 (fun H locs hI => ?_)
  obtain ⟨G319, hE_G319⟩ : ∃ z9, gw_up G312 a (kx (.inr (6, [.int 0, .ref q1, .ref q14, .ref q27, .ref q40, .ref q53, .ref q66, .ref q79, .ref q92, .ref q105, .ref q118, .ref q131, .ref q144, .ref q157, .ref q170, .ref q183, .ref q196, .int 0, .ref q209, .int 0, .ref q222, .ref q235, .ref q284, .int 0, .ref q297, .ref q310, .null, .null, .null, .null]))) = z9 := ⟨_, rfl⟩
  rw [hE_G319] at hI
  have hG321 : G319 a = some (kx (.inr (6, [.int 0, .ref q1, .ref q14, .ref q27, .ref q40, .ref q53, .ref q66, .ref q79, .ref q92, .ref q105, .ref q118, .ref q131, .ref q144, .ref q157, .ref q170, .ref q183, .ref q196, .int 0, .ref q209, .int 0, .ref q222, .ref q235, .ref q284, .int 0, .ref q297, .ref q310, .null, .null, .null, .null]))) := by rw [← hE_G319]; exact gw_up_s
  have hs320 : gw_fr (fun b => b = a) G312 G319 := by rw [← hE_G319]; exact gw_fr.up rfl
  have hf322 : gw_fr (fun b => b = a) G G319 := gw_fr.tr hf317 (by rw [← hE_G319]; exact gw_fr.up rfl)
  have hmi := hmi.up (a := a) (K' := (kx (.inr (6, [.int 0, .ref q1, .ref q14, .ref q27, .ref q40, .ref q53, .ref q66, .ref q79, .ref q92, .ref q105, .ref q118, .ref q131, .ref q144, .ref q157, .ref q170, .ref q183, .ref q196, .int 0, .ref q209, .int 0, .ref q222, .ref q235, .ref q284, .int 0, .ref q297, .ref q310, .null, .null, .null, .null]))))
  rw [hE_G319] at hmi
  refine lv_aload_n hx hb d_Mo_init_221 rfl (lv_at hl 0 rfl) ?_
  refine lv_bipush (v := 16) hx hb d_Mo_init_222 (by decide) ?_
  refine gw_newa M hK hI (atype := .int) a_int 0 rfl (fun U cA h => h) (N' := 16) (a0 := (16, .inl (fun _ => 0))) (fun cA => rfl) (by decide) rfl (Nat.le_of_ble_eq_true rfl) (Nat.le_of_ble_eq_true rfl) (Nat.le_of_ble_eq_true rfl) (kA D 0 16 by8) (⟨_, fun _ _ => (show uN 0 < 256 by decide), rfl⟩) d_Mo_init_224 (fun q323 H hz324 hI => ?_)
  generalize hE_G325 : gw_up G319 q323 (kA D 0 16 by8) = G325 at hI
  have hG327 : G325 q323 = some (kA D 0 16 by8) := by rw [← hE_G325]; exact gw_up_s
  have hs326 : gw_fr (fun _ => False) G319 G325 := by rw [← hE_G325]; exact gw_fr.new hz324
  have hn328 : a ≠ q323 := fun q9 => by have h9 := hG321; rw [q9, hz324] at h9; cases h9
  have hy329 : G q323 = none := by
    cases h9 : G q323 with
    | none => rfl
    | some K9 => exact absurd (hf322 q323 K9 h9 (fun e9 => hn328 e9.symm)) (by rw [hz324]; exact fun h => by cases h)
  have hf330 : gw_fr (fun b => b = a) G G325 := gw_fr.tr hf322 (by rw [← hE_G325]; exact gw_fr.new hz324)
  have hmi := hmi.new (K' := (kA D 0 16 by8)) 26 hz324
  rw [hE_G325] at hmi
  have hG331 : G325 a = some (kx (.inr (6, [.int 0, .ref q1, .ref q14, .ref q27, .ref q40, .ref q53, .ref q66, .ref q79, .ref q92, .ref q105, .ref q118, .ref q131, .ref q144, .ref q157, .ref q170, .ref q183, .ref q196, .int 0, .ref q209, .int 0, .ref q222, .ref q235, .ref q284, .int 0, .ref q297, .ref q310, .null, .null, .null, .null]))) := (hs326 a _ hG321 (fun h => h))
  refine gw_putF M hK hI hG331 i_Mo t_Mo tk_Mo n_Mo rfl 26 (by decide) f_Mo_78 rfl hin rfl rfl (kx (.inr (6, [.int 0, .ref q1, .ref q14, .ref q27, .ref q40, .ref q53, .ref q66, .ref q79, .ref q92, .ref q105, .ref q118, .ref q131, .ref q144, .ref q157, .ref q170, .ref q183, .ref q196, .int 0, .ref q209, .int 0, .ref q222, .ref q235, .ref q284, .int 0, .ref q297, .ref q310, .ref q323, .null, .null, .null]))) (fun x hx => ⟨_, hx, Nat.le_of_ble_eq_true rfl, rfl⟩) d_Mo_init_226 (fun H locs hI => ?_)
  obtain ⟨G332, hE_G332⟩ : ∃ z9, gw_up G325 a (kx (.inr (6, [.int 0, .ref q1, .ref q14, .ref q27, .ref q40, .ref q53, .ref q66, .ref q79, .ref q92, .ref q105, .ref q118, .ref q131, .ref q144, .ref q157, .ref q170, .ref q183, .ref q196, .int 0, .ref q209, .int 0, .ref q222, .ref q235, .ref q284, .int 0, .ref q297, .ref q310, .ref q323, .null, .null, .null]))) = z9 := ⟨_, rfl⟩
  rw [hE_G332] at hI
  have hG334 : G332 a = some (kx (.inr (6, [.int 0, .ref q1, .ref q14, .ref q27, .ref q40, .ref q53, .ref q66, .ref q79, .ref q92, .ref q105, .ref q118, .ref q131, .ref q144, .ref q157, .ref q170, .ref q183, .ref q196, .int 0, .ref q209, .int 0, .ref q222, .ref q235, .ref q284, .int 0, .ref q297, .ref q310, .ref q323, .null, .null, .null]))) := by rw [← hE_G332]; exact gw_up_s
  have hs333 : gw_fr (fun b => b = a) G325 G332 := by rw [← hE_G332]; exact gw_fr.up rfl
  have hf335 : gw_fr (fun b => b = a) G G332 := gw_fr.tr hf330 (by rw [← hE_G332]; exact gw_fr.up rfl)
  have hmi := hmi.up (a := a) (K' := (kx (.inr (6, [.int 0, .ref q1, .ref q14, .ref q27, .ref q40, .ref q53, .ref q66, .ref q79, .ref q92, .ref q105, .ref q118, .ref q131, .ref q144, .ref q157, .ref q170, .ref q183, .ref q196, .int 0, .ref q209, .int 0, .ref q222, .ref q235, .ref q284, .int 0, .ref q297, .ref q310, .ref q323, .null, .null, .null]))))
  rw [hE_G332] at hmi
  refine lv_aload_n hx hb d_Mo_init_229 rfl (lv_at hl 0 rfl) ?_
  refine lv_bipush (v := 16) hx hb d_Mo_init_230 (by decide) ?_
  refine gw_newa M hK hI (atype := .int) a_int 0 rfl (fun U cA h => h) (N' := 16) (a0 := (16, .inl (fun _ => 0))) (fun cA => rfl) (by decide) rfl (Nat.le_of_ble_eq_true rfl) (Nat.le_of_ble_eq_true rfl) (Nat.le_of_ble_eq_true rfl) (kA D 0 16 tT) (⟨_, fun _ _ => trivial, rfl⟩) d_Mo_init_232 (fun q336 H hz337 hI => ?_)
  generalize hE_G338 : gw_up G332 q336 (kA D 0 16 tT) = G338 at hI
  have hG340 : G338 q336 = some (kA D 0 16 tT) := by rw [← hE_G338]; exact gw_up_s
  have hs339 : gw_fr (fun _ => False) G332 G338 := by rw [← hE_G338]; exact gw_fr.new hz337
  have hn341 : a ≠ q336 := fun q9 => by have h9 := hG334; rw [q9, hz337] at h9; cases h9
  have hy342 : G q336 = none := by
    cases h9 : G q336 with
    | none => rfl
    | some K9 => exact absurd (hf335 q336 K9 h9 (fun e9 => hn341 e9.symm)) (by rw [hz337]; exact fun h => by cases h)
  have hf343 : gw_fr (fun b => b = a) G G338 := gw_fr.tr hf335 (by rw [← hE_G338]; exact gw_fr.new hz337)
  have hmi := hmi.new (K' := (kA D 0 16 tT)) 27 hz337
  rw [hE_G338] at hmi
  have hG344 : G338 a = some (kx (.inr (6, [.int 0, .ref q1, .ref q14, .ref q27, .ref q40, .ref q53, .ref q66, .ref q79, .ref q92, .ref q105, .ref q118, .ref q131, .ref q144, .ref q157, .ref q170, .ref q183, .ref q196, .int 0, .ref q209, .int 0, .ref q222, .ref q235, .ref q284, .int 0, .ref q297, .ref q310, .ref q323, .null, .null, .null]))) := (hs339 a _ hG334 (fun h => h))
  refine gw_putF M hK hI hG344 i_Mo t_Mo tk_Mo n_Mo rfl 27 (by decide) f_Mo_81 rfl hin rfl rfl (kx (.inr (6, [.int 0, .ref q1, .ref q14, .ref q27, .ref q40, .ref q53, .ref q66, .ref q79, .ref q92, .ref q105, .ref q118, .ref q131, .ref q144, .ref q157, .ref q170, .ref q183, .ref q196, .int 0, .ref q209, .int 0, .ref q222, .ref q235, .ref q284, .int 0, .ref q297, .ref q310, .ref q323, .ref q336, .null, .null]))) (fun x hx => ⟨_, hx, Nat.le_of_ble_eq_true rfl, rfl⟩) d_Mo_init_234 (fun H locs hI => ?_)
  obtain ⟨G345, hE_G345⟩ : ∃ z9, gw_up G338 a (kx (.inr (6, [.int 0, .ref q1, .ref q14, .ref q27, .ref q40, .ref q53, .ref q66, .ref q79, .ref q92, .ref q105, .ref q118, .ref q131, .ref q144, .ref q157, .ref q170, .ref q183, .ref q196, .int 0, .ref q209, .int 0, .ref q222, .ref q235, .ref q284, .int 0, .ref q297, .ref q310, .ref q323, .ref q336, .null, .null]))) = z9 := ⟨_, rfl⟩
  rw [hE_G345] at hI
  have hG347 : G345 a = some (kx (.inr (6, [.int 0, .ref q1, .ref q14, .ref q27, .ref q40, .ref q53, .ref q66, .ref q79, .ref q92, .ref q105, .ref q118, .ref q131, .ref q144, .ref q157, .ref q170, .ref q183, .ref q196, .int 0, .ref q209, .int 0, .ref q222, .ref q235, .ref q284, .int 0, .ref q297, .ref q310, .ref q323, .ref q336, .null, .null]))) := by rw [← hE_G345]; exact gw_up_s
  have hs346 : gw_fr (fun b => b = a) G338 G345 := by rw [← hE_G345]; exact gw_fr.up rfl
  have hf348 : gw_fr (fun b => b = a) G G345 := gw_fr.tr hf343 (by rw [← hE_G345]; exact gw_fr.up rfl)
  have hmi := hmi.up (a := a) (K' := (kx (.inr (6, [.int 0, .ref q1, .ref q14, .ref q27, .ref q40, .ref q53, .ref q66, .ref q79, .ref q92, .ref q105, .ref q118, .ref q131, .ref q144, .ref q157, .ref q170, .ref q183, .ref q196, .int 0, .ref q209, .int 0, .ref q222, .ref q235, .ref q284, .int 0, .ref q297, .ref q310, .ref q323, .ref q336, .null, .null]))))
  rw [hE_G345] at hmi
  refine lv_aload_n hx hb d_Mo_init_237 rfl (lv_at hl 0 rfl) ?_
  refine lv_bipush (v := 16) hx hb d_Mo_init_238 (by decide) ?_
  refine gw_newa M hK hI (atype := .int) a_int 0 rfl (fun U cA h => h) (N' := 16) (a0 := (16, .inl (fun _ => 0))) (fun cA => rfl) (by decide) rfl (Nat.le_of_ble_eq_true rfl) (Nat.le_of_ble_eq_true rfl) (Nat.le_of_ble_eq_true rfl) (kA D 0 16 by8) (⟨_, fun _ _ => (show uN 0 < 256 by decide), rfl⟩) d_Mo_init_240 (fun q349 H hz350 hI => ?_)
  generalize hE_G351 : gw_up G345 q349 (kA D 0 16 by8) = G351 at hI
  have hG353 : G351 q349 = some (kA D 0 16 by8) := by rw [← hE_G351]; exact gw_up_s
  have hs352 : gw_fr (fun _ => False) G345 G351 := by rw [← hE_G351]; exact gw_fr.new hz350
  have hn354 : a ≠ q349 := fun q9 => by have h9 := hG347; rw [q9, hz350] at h9; cases h9
  have hy355 : G q349 = none := by
    cases h9 : G q349 with
    | none => rfl
    | some K9 => exact absurd (hf348 q349 K9 h9 (fun e9 => hn354 e9.symm)) (by rw [hz350]; exact fun h => by cases h)
  have hf356 : gw_fr (fun b => b = a) G G351 := gw_fr.tr hf348 (by rw [← hE_G351]; exact gw_fr.new hz350)
  have hmi := hmi.new (K' := (kA D 0 16 by8)) 28 hz350
  rw [hE_G351] at hmi
  have hG357 : G351 a = some (kx (.inr (6, [.int 0, .ref q1, .ref q14, .ref q27, .ref q40, .ref q53, .ref q66, .ref q79, .ref q92, .ref q105, .ref q118, .ref q131, .ref q144, .ref q157, .ref q170, .ref q183, .ref q196, .int 0, .ref q209, .int 0, .ref q222, .ref q235, .ref q284, .int 0, .ref q297, .ref q310, .ref q323, .ref q336, .null, .null]))) := (hs352 a _ hG347 (fun h => h))
  refine gw_putF M hK hI hG357 i_Mo t_Mo tk_Mo n_Mo rfl 28 (by decide) f_Mo_84 rfl hin rfl rfl (kx (.inr (6, [.int 0, .ref q1, .ref q14, .ref q27, .ref q40, .ref q53, .ref q66, .ref q79, .ref q92, .ref q105, .ref q118, .ref q131, .ref q144, .ref q157, .ref q170, .ref q183, .ref q196, .int 0, .ref q209, .int 0, .ref q222, .ref q235, .ref q284, .int 0, .ref q297, .ref q310, .ref q323, .ref q336, .ref q349, .null]))) (fun x hx => ⟨_, hx, Nat.le_of_ble_eq_true rfl, rfl⟩) d_Mo_init_242 (fun H locs hI => ?_)
  obtain ⟨G358, hE_G358⟩ : ∃ z9, gw_up G351 a (kx (.inr (6, [.int 0, .ref q1, .ref q14, .ref q27, .ref q40, .ref q53, .ref q66, .ref q79, .ref q92, .ref q105, .ref q118, .ref q131, .ref q144, .ref q157, .ref q170, .ref q183, .ref q196, .int 0, .ref q209, .int 0, .ref q222, .ref q235, .ref q284, .int 0, .ref q297, .ref q310, .ref q323, .ref q336, .ref q349, .null]))) = z9 := ⟨_, rfl⟩
  rw [hE_G358] at hI
  have hG360 : G358 a = some (kx (.inr (6, [.int 0, .ref q1, .ref q14, .ref q27, .ref q40, .ref q53, .ref q66, .ref q79, .ref q92, .ref q105, .ref q118, .ref q131, .ref q144, .ref q157, .ref q170, .ref q183, .ref q196, .int 0, .ref q209, .int 0, .ref q222, .ref q235, .ref q284, .int 0, .ref q297, .ref q310, .ref q323, .ref q336, .ref q349, .null]))) := by rw [← hE_G358]; exact gw_up_s
  have hs359 : gw_fr (fun b => b = a) G351 G358 := by rw [← hE_G358]; exact gw_fr.up rfl
  have hf361 : gw_fr (fun b => b = a) G G358 := gw_fr.tr hf356 (by rw [← hE_G358]; exact gw_fr.up rfl)
  have hmi := hmi.up (a := a) (K' := (kx (.inr (6, [.int 0, .ref q1, .ref q14, .ref q27, .ref q40, .ref q53, .ref q66, .ref q79, .ref q92, .ref q105, .ref q118, .ref q131, .ref q144, .ref q157, .ref q170, .ref q183, .ref q196, .int 0, .ref q209, .int 0, .ref q222, .ref q235, .ref q284, .int 0, .ref q297, .ref q310, .ref q323, .ref q336, .ref q349, .null]))))
  rw [hE_G358] at hmi
  refine lv_aload_n hx hb d_Mo_init_245 rfl (lv_at hl 0 rfl) ?_
  refine lv_bipush (v := 16) hx hb d_Mo_init_246 (by decide) ?_
  refine gw_newa M hK hI (atype := .int) a_int 0 rfl (fun U cA h => h) (N' := 16) (a0 := (16, .inl (fun _ => 0))) (fun cA => rfl) (by decide) rfl (Nat.le_of_ble_eq_true rfl) (Nat.le_of_ble_eq_true rfl) (Nat.le_of_ble_eq_true rfl) (kA D 0 16 by8) (⟨_, fun _ _ => (show uN 0 < 256 by decide), rfl⟩) d_Mo_init_248 (fun q362 H hz363 hI => ?_)
  generalize hE_G364 : gw_up G358 q362 (kA D 0 16 by8) = G364 at hI
  have hG366 : G364 q362 = some (kA D 0 16 by8) := by rw [← hE_G364]; exact gw_up_s
  have hs365 : gw_fr (fun _ => False) G358 G364 := by rw [← hE_G364]; exact gw_fr.new hz363
  have hn367 : a ≠ q362 := fun q9 => by have h9 := hG360; rw [q9, hz363] at h9; cases h9
  have hy368 : G q362 = none := by
    cases h9 : G q362 with
    | none => rfl
    | some K9 => exact absurd (hf361 q362 K9 h9 (fun e9 => hn367 e9.symm)) (by rw [hz363]; exact fun h => by cases h)
  have hf369 : gw_fr (fun b => b = a) G G364 := gw_fr.tr hf361 (by rw [← hE_G364]; exact gw_fr.new hz363)
  have hmi := hmi.new (K' := (kA D 0 16 by8)) 29 hz363
  rw [hE_G364] at hmi
  have hG370 : G364 a = some (kx (.inr (6, [.int 0, .ref q1, .ref q14, .ref q27, .ref q40, .ref q53, .ref q66, .ref q79, .ref q92, .ref q105, .ref q118, .ref q131, .ref q144, .ref q157, .ref q170, .ref q183, .ref q196, .int 0, .ref q209, .int 0, .ref q222, .ref q235, .ref q284, .int 0, .ref q297, .ref q310, .ref q323, .ref q336, .ref q349, .null]))) := (hs365 a _ hG360 (fun h => h))
  refine gw_putF M hK hI hG370 i_Mo t_Mo tk_Mo n_Mo rfl 29 (by decide) f_Mo_87 rfl hin rfl rfl (kx (.inr (6, [.int 0, .ref q1, .ref q14, .ref q27, .ref q40, .ref q53, .ref q66, .ref q79, .ref q92, .ref q105, .ref q118, .ref q131, .ref q144, .ref q157, .ref q170, .ref q183, .ref q196, .int 0, .ref q209, .int 0, .ref q222, .ref q235, .ref q284, .int 0, .ref q297, .ref q310, .ref q323, .ref q336, .ref q349, .ref q362]))) (fun x hx => ⟨_, hx, Nat.le_of_ble_eq_true rfl, rfl⟩) d_Mo_init_250 (fun H locs hI => ?_)
  obtain ⟨G371, hE_G371⟩ : ∃ z9, gw_up G364 a (kx (.inr (6, [.int 0, .ref q1, .ref q14, .ref q27, .ref q40, .ref q53, .ref q66, .ref q79, .ref q92, .ref q105, .ref q118, .ref q131, .ref q144, .ref q157, .ref q170, .ref q183, .ref q196, .int 0, .ref q209, .int 0, .ref q222, .ref q235, .ref q284, .int 0, .ref q297, .ref q310, .ref q323, .ref q336, .ref q349, .ref q362]))) = z9 := ⟨_, rfl⟩
  rw [hE_G371] at hI
  have hG373 : G371 a = some (kx (.inr (6, [.int 0, .ref q1, .ref q14, .ref q27, .ref q40, .ref q53, .ref q66, .ref q79, .ref q92, .ref q105, .ref q118, .ref q131, .ref q144, .ref q157, .ref q170, .ref q183, .ref q196, .int 0, .ref q209, .int 0, .ref q222, .ref q235, .ref q284, .int 0, .ref q297, .ref q310, .ref q323, .ref q336, .ref q349, .ref q362]))) := by rw [← hE_G371]; exact gw_up_s
  have hs372 : gw_fr (fun b => b = a) G364 G371 := by rw [← hE_G371]; exact gw_fr.up rfl
  have hf374 : gw_fr (fun b => b = a) G G371 := gw_fr.tr hf369 (by rw [← hE_G371]; exact gw_fr.up rfl)
  have hmi := hmi.up (a := a) (K' := (kx (.inr (6, [.int 0, .ref q1, .ref q14, .ref q27, .ref q40, .ref q53, .ref q66, .ref q79, .ref q92, .ref q105, .ref q118, .ref q131, .ref q144, .ref q157, .ref q170, .ref q183, .ref q196, .int 0, .ref q209, .int 0, .ref q222, .ref q235, .ref q284, .int 0, .ref q297, .ref q310, .ref q323, .ref q336, .ref q349, .ref q362]))))
  rw [hE_G371] at hmi
  refine lv_iconst (v := 0) hx hb d_Mo_init_253 (by decide) ?_
  refine lv_istore_n (lv' := [(1, .int 0), (0, .ref a)]) hx hb d_Mo_init_254 rfl hl (by decide) rfl (fun ls hl => ?_)
  have hn375 : q1 ≠ q235 := fun q9 => by have h9 : G231 q1 = some (kA D 0 256 by8) := (hs232 q1 _ (hs225 q1 _ (hs219 q1 _ (hs212 q1 _ (hs206 q1 _ (hs199 q1 _ (hs193 q1 _ (hs186 q1 _ (hs180 q1 _ (hs173 q1 _ (hs167 q1 _ (hs160 q1 _ (hs154 q1 _ (hs147 q1 _ (hs141 q1 _ (hs134 q1 _ (hs128 q1 _ (hs121 q1 _ (hs115 q1 _ (hs108 q1 _ (hs102 q1 _ (hs95 q1 _ (hs89 q1 _ (hs82 q1 _ (hs76 q1 _ (hs69 q1 _ (hs63 q1 _ (hs56 q1 _ (hs50 q1 _ (hs43 q1 _ (hs37 q1 _ (hs30 q1 _ (hs24 q1 _ (hs17 q1 _ (hs11 q1 _ hG5 hn6.symm) (fun h => h)) hn6.symm) (fun h => h)) hn6.symm) (fun h => h)) hn6.symm) (fun h => h)) hn6.symm) (fun h => h)) hn6.symm) (fun h => h)) hn6.symm) (fun h => h)) hn6.symm) (fun h => h)) hn6.symm) (fun h => h)) hn6.symm) (fun h => h)) hn6.symm) (fun h => h)) hn6.symm) (fun h => h)) hn6.symm) (fun h => h)) hn6.symm) (fun h => h)) hn6.symm) (fun h => h)) hn6.symm) (fun h => h)) hn6.symm) (fun h => h)) hn6.symm); rw [q9, hz236] at h9; cases h9
  have hG376 : G371 q1 = some (kA D 0 256 by8) := (hs372 q1 _ (hs365 q1 _ (hs359 q1 _ (hs352 q1 _ (hs346 q1 _ (hs339 q1 _ (hs333 q1 _ (hs326 q1 _ (hs320 q1 _ (hs313 q1 _ (hs307 q1 _ (hs300 q1 _ (hs294 q1 _ (hs287 q1 _ (hs281 q1 _ (hs276 q1 _ (hs272 q1 _ (hs268 q1 _ (hs264 q1 _ (hs260 q1 _ (hs256 q1 _ (hs252 q1 _ (hs248 q1 _ (hs244 q1 _ (hs238 q1 _ (hs232 q1 _ (hs225 q1 _ (hs219 q1 _ (hs212 q1 _ (hs206 q1 _ (hs199 q1 _ (hs193 q1 _ (hs186 q1 _ (hs180 q1 _ (hs173 q1 _ (hs167 q1 _ (hs160 q1 _ (hs154 q1 _ (hs147 q1 _ (hs141 q1 _ (hs134 q1 _ (hs128 q1 _ (hs121 q1 _ (hs115 q1 _ (hs108 q1 _ (hs102 q1 _ (hs95 q1 _ (hs89 q1 _ (hs82 q1 _ (hs76 q1 _ (hs69 q1 _ (hs63 q1 _ (hs56 q1 _ (hs50 q1 _ (hs43 q1 _ (hs37 q1 _ (hs30 q1 _ (hs24 q1 _ (hs17 q1 _ (hs11 q1 _ hG5 hn6.symm) (fun h => h)) hn6.symm) (fun h => h)) hn6.symm) (fun h => h)) hn6.symm) (fun h => h)) hn6.symm) (fun h => h)) hn6.symm) (fun h => h)) hn6.symm) (fun h => h)) hn6.symm) (fun h => h)) hn6.symm) (fun h => h)) hn6.symm) (fun h => h)) hn6.symm) (fun h => h)) hn6.symm) (fun h => h)) hn6.symm) (fun h => h)) hn6.symm) (fun h => h)) hn6.symm) (fun h => h)) hn6.symm) (fun h => h)) hn6.symm) (fun h => h)) hn6.symm) (fun h => h)) hn375) hn375) hn375) hn375) hn375) hn375) hn375) hn375) hn375) hn6.symm) (fun h => h)) hn6.symm) (fun h => h)) hn6.symm) (fun h => h)) hn6.symm) (fun h => h)) hn6.symm) (fun h => h)) hn6.symm) (fun h => h)) hn6.symm) (fun h => h)) hn6.symm)
  have hn377 : q14 ≠ q235 := fun q9 => by have h9 : G231 q14 = some (kx (.inl (D.2 2, 16, .inl (fun _ => 0)))) := (hs232 q14 _ (hs225 q14 _ (hs219 q14 _ (hs212 q14 _ (hs206 q14 _ (hs199 q14 _ (hs193 q14 _ (hs186 q14 _ (hs180 q14 _ (hs173 q14 _ (hs167 q14 _ (hs160 q14 _ (hs154 q14 _ (hs147 q14 _ (hs141 q14 _ (hs134 q14 _ (hs128 q14 _ (hs121 q14 _ (hs115 q14 _ (hs108 q14 _ (hs102 q14 _ (hs95 q14 _ (hs89 q14 _ (hs82 q14 _ (hs76 q14 _ (hs69 q14 _ (hs63 q14 _ (hs56 q14 _ (hs50 q14 _ (hs43 q14 _ (hs37 q14 _ (hs30 q14 _ (hs24 q14 _ hG18 hn19.symm) (fun h => h)) hn19.symm) (fun h => h)) hn19.symm) (fun h => h)) hn19.symm) (fun h => h)) hn19.symm) (fun h => h)) hn19.symm) (fun h => h)) hn19.symm) (fun h => h)) hn19.symm) (fun h => h)) hn19.symm) (fun h => h)) hn19.symm) (fun h => h)) hn19.symm) (fun h => h)) hn19.symm) (fun h => h)) hn19.symm) (fun h => h)) hn19.symm) (fun h => h)) hn19.symm) (fun h => h)) hn19.symm) (fun h => h)) hn19.symm); rw [q9, hz236] at h9; cases h9
  have hG378 : G371 q14 = some (kx (.inl (D.2 2, 16, .inl (fun _ => 0)))) := (hs372 q14 _ (hs365 q14 _ (hs359 q14 _ (hs352 q14 _ (hs346 q14 _ (hs339 q14 _ (hs333 q14 _ (hs326 q14 _ (hs320 q14 _ (hs313 q14 _ (hs307 q14 _ (hs300 q14 _ (hs294 q14 _ (hs287 q14 _ (hs281 q14 _ (hs276 q14 _ (hs272 q14 _ (hs268 q14 _ (hs264 q14 _ (hs260 q14 _ (hs256 q14 _ (hs252 q14 _ (hs248 q14 _ (hs244 q14 _ (hs238 q14 _ (hs232 q14 _ (hs225 q14 _ (hs219 q14 _ (hs212 q14 _ (hs206 q14 _ (hs199 q14 _ (hs193 q14 _ (hs186 q14 _ (hs180 q14 _ (hs173 q14 _ (hs167 q14 _ (hs160 q14 _ (hs154 q14 _ (hs147 q14 _ (hs141 q14 _ (hs134 q14 _ (hs128 q14 _ (hs121 q14 _ (hs115 q14 _ (hs108 q14 _ (hs102 q14 _ (hs95 q14 _ (hs89 q14 _ (hs82 q14 _ (hs76 q14 _ (hs69 q14 _ (hs63 q14 _ (hs56 q14 _ (hs50 q14 _ (hs43 q14 _ (hs37 q14 _ (hs30 q14 _ (hs24 q14 _ hG18 hn19.symm) (fun h => h)) hn19.symm) (fun h => h)) hn19.symm) (fun h => h)) hn19.symm) (fun h => h)) hn19.symm) (fun h => h)) hn19.symm) (fun h => h)) hn19.symm) (fun h => h)) hn19.symm) (fun h => h)) hn19.symm) (fun h => h)) hn19.symm) (fun h => h)) hn19.symm) (fun h => h)) hn19.symm) (fun h => h)) hn19.symm) (fun h => h)) hn19.symm) (fun h => h)) hn19.symm) (fun h => h)) hn19.symm) (fun h => h)) hn19.symm) (fun h => h)) hn377) hn377) hn377) hn377) hn377) hn377) hn377) hn377) hn377) hn19.symm) (fun h => h)) hn19.symm) (fun h => h)) hn19.symm) (fun h => h)) hn19.symm) (fun h => h)) hn19.symm) (fun h => h)) hn19.symm) (fun h => h)) hn19.symm) (fun h => h)) hn19.symm)
  have hn379 : q27 ≠ q235 := fun q9 => by have h9 : G231 q27 = some (kx (.inl (D.2 0, 16, .inl (fun _ => 0)))) := (hs232 q27 _ (hs225 q27 _ (hs219 q27 _ (hs212 q27 _ (hs206 q27 _ (hs199 q27 _ (hs193 q27 _ (hs186 q27 _ (hs180 q27 _ (hs173 q27 _ (hs167 q27 _ (hs160 q27 _ (hs154 q27 _ (hs147 q27 _ (hs141 q27 _ (hs134 q27 _ (hs128 q27 _ (hs121 q27 _ (hs115 q27 _ (hs108 q27 _ (hs102 q27 _ (hs95 q27 _ (hs89 q27 _ (hs82 q27 _ (hs76 q27 _ (hs69 q27 _ (hs63 q27 _ (hs56 q27 _ (hs50 q27 _ (hs43 q27 _ (hs37 q27 _ hG31 hn32.symm) (fun h => h)) hn32.symm) (fun h => h)) hn32.symm) (fun h => h)) hn32.symm) (fun h => h)) hn32.symm) (fun h => h)) hn32.symm) (fun h => h)) hn32.symm) (fun h => h)) hn32.symm) (fun h => h)) hn32.symm) (fun h => h)) hn32.symm) (fun h => h)) hn32.symm) (fun h => h)) hn32.symm) (fun h => h)) hn32.symm) (fun h => h)) hn32.symm) (fun h => h)) hn32.symm) (fun h => h)) hn32.symm); rw [q9, hz236] at h9; cases h9
  have hG380 : G371 q27 = some (kx (.inl (D.2 0, 16, .inl (fun _ => 0)))) := (hs372 q27 _ (hs365 q27 _ (hs359 q27 _ (hs352 q27 _ (hs346 q27 _ (hs339 q27 _ (hs333 q27 _ (hs326 q27 _ (hs320 q27 _ (hs313 q27 _ (hs307 q27 _ (hs300 q27 _ (hs294 q27 _ (hs287 q27 _ (hs281 q27 _ (hs276 q27 _ (hs272 q27 _ (hs268 q27 _ (hs264 q27 _ (hs260 q27 _ (hs256 q27 _ (hs252 q27 _ (hs248 q27 _ (hs244 q27 _ (hs238 q27 _ (hs232 q27 _ (hs225 q27 _ (hs219 q27 _ (hs212 q27 _ (hs206 q27 _ (hs199 q27 _ (hs193 q27 _ (hs186 q27 _ (hs180 q27 _ (hs173 q27 _ (hs167 q27 _ (hs160 q27 _ (hs154 q27 _ (hs147 q27 _ (hs141 q27 _ (hs134 q27 _ (hs128 q27 _ (hs121 q27 _ (hs115 q27 _ (hs108 q27 _ (hs102 q27 _ (hs95 q27 _ (hs89 q27 _ (hs82 q27 _ (hs76 q27 _ (hs69 q27 _ (hs63 q27 _ (hs56 q27 _ (hs50 q27 _ (hs43 q27 _ (hs37 q27 _ hG31 hn32.symm) (fun h => h)) hn32.symm) (fun h => h)) hn32.symm) (fun h => h)) hn32.symm) (fun h => h)) hn32.symm) (fun h => h)) hn32.symm) (fun h => h)) hn32.symm) (fun h => h)) hn32.symm) (fun h => h)) hn32.symm) (fun h => h)) hn32.symm) (fun h => h)) hn32.symm) (fun h => h)) hn32.symm) (fun h => h)) hn32.symm) (fun h => h)) hn32.symm) (fun h => h)) hn32.symm) (fun h => h)) hn32.symm) (fun h => h)) hn379) hn379) hn379) hn379) hn379) hn379) hn379) hn379) hn379) hn32.symm) (fun h => h)) hn32.symm) (fun h => h)) hn32.symm) (fun h => h)) hn32.symm) (fun h => h)) hn32.symm) (fun h => h)) hn32.symm) (fun h => h)) hn32.symm) (fun h => h)) hn32.symm)
  have hn381 : q40 ≠ q235 := fun q9 => by have h9 : G231 q40 = some (kA D 0 2816 by8) := (hs232 q40 _ (hs225 q40 _ (hs219 q40 _ (hs212 q40 _ (hs206 q40 _ (hs199 q40 _ (hs193 q40 _ (hs186 q40 _ (hs180 q40 _ (hs173 q40 _ (hs167 q40 _ (hs160 q40 _ (hs154 q40 _ (hs147 q40 _ (hs141 q40 _ (hs134 q40 _ (hs128 q40 _ (hs121 q40 _ (hs115 q40 _ (hs108 q40 _ (hs102 q40 _ (hs95 q40 _ (hs89 q40 _ (hs82 q40 _ (hs76 q40 _ (hs69 q40 _ (hs63 q40 _ (hs56 q40 _ (hs50 q40 _ hG44 hn45.symm) (fun h => h)) hn45.symm) (fun h => h)) hn45.symm) (fun h => h)) hn45.symm) (fun h => h)) hn45.symm) (fun h => h)) hn45.symm) (fun h => h)) hn45.symm) (fun h => h)) hn45.symm) (fun h => h)) hn45.symm) (fun h => h)) hn45.symm) (fun h => h)) hn45.symm) (fun h => h)) hn45.symm) (fun h => h)) hn45.symm) (fun h => h)) hn45.symm) (fun h => h)) hn45.symm); rw [q9, hz236] at h9; cases h9
  have hG382 : G371 q40 = some (kA D 0 2816 by8) := (hs372 q40 _ (hs365 q40 _ (hs359 q40 _ (hs352 q40 _ (hs346 q40 _ (hs339 q40 _ (hs333 q40 _ (hs326 q40 _ (hs320 q40 _ (hs313 q40 _ (hs307 q40 _ (hs300 q40 _ (hs294 q40 _ (hs287 q40 _ (hs281 q40 _ (hs276 q40 _ (hs272 q40 _ (hs268 q40 _ (hs264 q40 _ (hs260 q40 _ (hs256 q40 _ (hs252 q40 _ (hs248 q40 _ (hs244 q40 _ (hs238 q40 _ (hs232 q40 _ (hs225 q40 _ (hs219 q40 _ (hs212 q40 _ (hs206 q40 _ (hs199 q40 _ (hs193 q40 _ (hs186 q40 _ (hs180 q40 _ (hs173 q40 _ (hs167 q40 _ (hs160 q40 _ (hs154 q40 _ (hs147 q40 _ (hs141 q40 _ (hs134 q40 _ (hs128 q40 _ (hs121 q40 _ (hs115 q40 _ (hs108 q40 _ (hs102 q40 _ (hs95 q40 _ (hs89 q40 _ (hs82 q40 _ (hs76 q40 _ (hs69 q40 _ (hs63 q40 _ (hs56 q40 _ (hs50 q40 _ hG44 hn45.symm) (fun h => h)) hn45.symm) (fun h => h)) hn45.symm) (fun h => h)) hn45.symm) (fun h => h)) hn45.symm) (fun h => h)) hn45.symm) (fun h => h)) hn45.symm) (fun h => h)) hn45.symm) (fun h => h)) hn45.symm) (fun h => h)) hn45.symm) (fun h => h)) hn45.symm) (fun h => h)) hn45.symm) (fun h => h)) hn45.symm) (fun h => h)) hn45.symm) (fun h => h)) hn45.symm) (fun h => h)) hn381) hn381) hn381) hn381) hn381) hn381) hn381) hn381) hn381) hn45.symm) (fun h => h)) hn45.symm) (fun h => h)) hn45.symm) (fun h => h)) hn45.symm) (fun h => h)) hn45.symm) (fun h => h)) hn45.symm) (fun h => h)) hn45.symm) (fun h => h)) hn45.symm)
  have hn383 : q53 ≠ q235 := fun q9 => by have h9 : G231 q53 = some (kA D 0 16 tT) := (hs232 q53 _ (hs225 q53 _ (hs219 q53 _ (hs212 q53 _ (hs206 q53 _ (hs199 q53 _ (hs193 q53 _ (hs186 q53 _ (hs180 q53 _ (hs173 q53 _ (hs167 q53 _ (hs160 q53 _ (hs154 q53 _ (hs147 q53 _ (hs141 q53 _ (hs134 q53 _ (hs128 q53 _ (hs121 q53 _ (hs115 q53 _ (hs108 q53 _ (hs102 q53 _ (hs95 q53 _ (hs89 q53 _ (hs82 q53 _ (hs76 q53 _ (hs69 q53 _ (hs63 q53 _ hG57 hn58.symm) (fun h => h)) hn58.symm) (fun h => h)) hn58.symm) (fun h => h)) hn58.symm) (fun h => h)) hn58.symm) (fun h => h)) hn58.symm) (fun h => h)) hn58.symm) (fun h => h)) hn58.symm) (fun h => h)) hn58.symm) (fun h => h)) hn58.symm) (fun h => h)) hn58.symm) (fun h => h)) hn58.symm) (fun h => h)) hn58.symm) (fun h => h)) hn58.symm); rw [q9, hz236] at h9; cases h9
  have hG384 : G371 q53 = some (kA D 0 16 tT) := (hs372 q53 _ (hs365 q53 _ (hs359 q53 _ (hs352 q53 _ (hs346 q53 _ (hs339 q53 _ (hs333 q53 _ (hs326 q53 _ (hs320 q53 _ (hs313 q53 _ (hs307 q53 _ (hs300 q53 _ (hs294 q53 _ (hs287 q53 _ (hs281 q53 _ (hs276 q53 _ (hs272 q53 _ (hs268 q53 _ (hs264 q53 _ (hs260 q53 _ (hs256 q53 _ (hs252 q53 _ (hs248 q53 _ (hs244 q53 _ (hs238 q53 _ (hs232 q53 _ (hs225 q53 _ (hs219 q53 _ (hs212 q53 _ (hs206 q53 _ (hs199 q53 _ (hs193 q53 _ (hs186 q53 _ (hs180 q53 _ (hs173 q53 _ (hs167 q53 _ (hs160 q53 _ (hs154 q53 _ (hs147 q53 _ (hs141 q53 _ (hs134 q53 _ (hs128 q53 _ (hs121 q53 _ (hs115 q53 _ (hs108 q53 _ (hs102 q53 _ (hs95 q53 _ (hs89 q53 _ (hs82 q53 _ (hs76 q53 _ (hs69 q53 _ (hs63 q53 _ hG57 hn58.symm) (fun h => h)) hn58.symm) (fun h => h)) hn58.symm) (fun h => h)) hn58.symm) (fun h => h)) hn58.symm) (fun h => h)) hn58.symm) (fun h => h)) hn58.symm) (fun h => h)) hn58.symm) (fun h => h)) hn58.symm) (fun h => h)) hn58.symm) (fun h => h)) hn58.symm) (fun h => h)) hn58.symm) (fun h => h)) hn58.symm) (fun h => h)) hn58.symm) (fun h => h)) hn383) hn383) hn383) hn383) hn383) hn383) hn383) hn383) hn383) hn58.symm) (fun h => h)) hn58.symm) (fun h => h)) hn58.symm) (fun h => h)) hn58.symm) (fun h => h)) hn58.symm) (fun h => h)) hn58.symm) (fun h => h)) hn58.symm) (fun h => h)) hn58.symm)
  have hn385 : q66 ≠ q235 := fun q9 => by have h9 : G231 q66 = some (kA D 0 16 tT) := (hs232 q66 _ (hs225 q66 _ (hs219 q66 _ (hs212 q66 _ (hs206 q66 _ (hs199 q66 _ (hs193 q66 _ (hs186 q66 _ (hs180 q66 _ (hs173 q66 _ (hs167 q66 _ (hs160 q66 _ (hs154 q66 _ (hs147 q66 _ (hs141 q66 _ (hs134 q66 _ (hs128 q66 _ (hs121 q66 _ (hs115 q66 _ (hs108 q66 _ (hs102 q66 _ (hs95 q66 _ (hs89 q66 _ (hs82 q66 _ (hs76 q66 _ hG70 hn71.symm) (fun h => h)) hn71.symm) (fun h => h)) hn71.symm) (fun h => h)) hn71.symm) (fun h => h)) hn71.symm) (fun h => h)) hn71.symm) (fun h => h)) hn71.symm) (fun h => h)) hn71.symm) (fun h => h)) hn71.symm) (fun h => h)) hn71.symm) (fun h => h)) hn71.symm) (fun h => h)) hn71.symm) (fun h => h)) hn71.symm); rw [q9, hz236] at h9; cases h9
  have hG386 : G371 q66 = some (kA D 0 16 tT) := (hs372 q66 _ (hs365 q66 _ (hs359 q66 _ (hs352 q66 _ (hs346 q66 _ (hs339 q66 _ (hs333 q66 _ (hs326 q66 _ (hs320 q66 _ (hs313 q66 _ (hs307 q66 _ (hs300 q66 _ (hs294 q66 _ (hs287 q66 _ (hs281 q66 _ (hs276 q66 _ (hs272 q66 _ (hs268 q66 _ (hs264 q66 _ (hs260 q66 _ (hs256 q66 _ (hs252 q66 _ (hs248 q66 _ (hs244 q66 _ (hs238 q66 _ (hs232 q66 _ (hs225 q66 _ (hs219 q66 _ (hs212 q66 _ (hs206 q66 _ (hs199 q66 _ (hs193 q66 _ (hs186 q66 _ (hs180 q66 _ (hs173 q66 _ (hs167 q66 _ (hs160 q66 _ (hs154 q66 _ (hs147 q66 _ (hs141 q66 _ (hs134 q66 _ (hs128 q66 _ (hs121 q66 _ (hs115 q66 _ (hs108 q66 _ (hs102 q66 _ (hs95 q66 _ (hs89 q66 _ (hs82 q66 _ (hs76 q66 _ hG70 hn71.symm) (fun h => h)) hn71.symm) (fun h => h)) hn71.symm) (fun h => h)) hn71.symm) (fun h => h)) hn71.symm) (fun h => h)) hn71.symm) (fun h => h)) hn71.symm) (fun h => h)) hn71.symm) (fun h => h)) hn71.symm) (fun h => h)) hn71.symm) (fun h => h)) hn71.symm) (fun h => h)) hn71.symm) (fun h => h)) hn71.symm) (fun h => h)) hn385) hn385) hn385) hn385) hn385) hn385) hn385) hn385) hn385) hn71.symm) (fun h => h)) hn71.symm) (fun h => h)) hn71.symm) (fun h => h)) hn71.symm) (fun h => h)) hn71.symm) (fun h => h)) hn71.symm) (fun h => h)) hn71.symm) (fun h => h)) hn71.symm)
  have hn387 : q79 ≠ q235 := fun q9 => by have h9 : G231 q79 = some (kx (.inl (D.2 2, 16, .inl (fun _ => 0)))) := (hs232 q79 _ (hs225 q79 _ (hs219 q79 _ (hs212 q79 _ (hs206 q79 _ (hs199 q79 _ (hs193 q79 _ (hs186 q79 _ (hs180 q79 _ (hs173 q79 _ (hs167 q79 _ (hs160 q79 _ (hs154 q79 _ (hs147 q79 _ (hs141 q79 _ (hs134 q79 _ (hs128 q79 _ (hs121 q79 _ (hs115 q79 _ (hs108 q79 _ (hs102 q79 _ (hs95 q79 _ (hs89 q79 _ hG83 hn84.symm) (fun h => h)) hn84.symm) (fun h => h)) hn84.symm) (fun h => h)) hn84.symm) (fun h => h)) hn84.symm) (fun h => h)) hn84.symm) (fun h => h)) hn84.symm) (fun h => h)) hn84.symm) (fun h => h)) hn84.symm) (fun h => h)) hn84.symm) (fun h => h)) hn84.symm) (fun h => h)) hn84.symm); rw [q9, hz236] at h9; cases h9
  have hG388 : G371 q79 = some (kx (.inl (D.2 2, 16, .inl (fun _ => 0)))) := (hs372 q79 _ (hs365 q79 _ (hs359 q79 _ (hs352 q79 _ (hs346 q79 _ (hs339 q79 _ (hs333 q79 _ (hs326 q79 _ (hs320 q79 _ (hs313 q79 _ (hs307 q79 _ (hs300 q79 _ (hs294 q79 _ (hs287 q79 _ (hs281 q79 _ (hs276 q79 _ (hs272 q79 _ (hs268 q79 _ (hs264 q79 _ (hs260 q79 _ (hs256 q79 _ (hs252 q79 _ (hs248 q79 _ (hs244 q79 _ (hs238 q79 _ (hs232 q79 _ (hs225 q79 _ (hs219 q79 _ (hs212 q79 _ (hs206 q79 _ (hs199 q79 _ (hs193 q79 _ (hs186 q79 _ (hs180 q79 _ (hs173 q79 _ (hs167 q79 _ (hs160 q79 _ (hs154 q79 _ (hs147 q79 _ (hs141 q79 _ (hs134 q79 _ (hs128 q79 _ (hs121 q79 _ (hs115 q79 _ (hs108 q79 _ (hs102 q79 _ (hs95 q79 _ (hs89 q79 _ hG83 hn84.symm) (fun h => h)) hn84.symm) (fun h => h)) hn84.symm) (fun h => h)) hn84.symm) (fun h => h)) hn84.symm) (fun h => h)) hn84.symm) (fun h => h)) hn84.symm) (fun h => h)) hn84.symm) (fun h => h)) hn84.symm) (fun h => h)) hn84.symm) (fun h => h)) hn84.symm) (fun h => h)) hn84.symm) (fun h => h)) hn387) hn387) hn387) hn387) hn387) hn387) hn387) hn387) hn387) hn84.symm) (fun h => h)) hn84.symm) (fun h => h)) hn84.symm) (fun h => h)) hn84.symm) (fun h => h)) hn84.symm) (fun h => h)) hn84.symm) (fun h => h)) hn84.symm) (fun h => h)) hn84.symm)
  have hn389 : q92 ≠ q235 := fun q9 => by have h9 : G231 q92 = some (kx (.inl (D.2 3, 16, .inr (.inl (fun _ => 0))))) := (hs232 q92 _ (hs225 q92 _ (hs219 q92 _ (hs212 q92 _ (hs206 q92 _ (hs199 q92 _ (hs193 q92 _ (hs186 q92 _ (hs180 q92 _ (hs173 q92 _ (hs167 q92 _ (hs160 q92 _ (hs154 q92 _ (hs147 q92 _ (hs141 q92 _ (hs134 q92 _ (hs128 q92 _ (hs121 q92 _ (hs115 q92 _ (hs108 q92 _ (hs102 q92 _ hG96 hn97.symm) (fun h => h)) hn97.symm) (fun h => h)) hn97.symm) (fun h => h)) hn97.symm) (fun h => h)) hn97.symm) (fun h => h)) hn97.symm) (fun h => h)) hn97.symm) (fun h => h)) hn97.symm) (fun h => h)) hn97.symm) (fun h => h)) hn97.symm) (fun h => h)) hn97.symm); rw [q9, hz236] at h9; cases h9
  have hG390 : G371 q92 = some (kx (.inl (D.2 3, 16, .inr (.inl (fun _ => 0))))) := (hs372 q92 _ (hs365 q92 _ (hs359 q92 _ (hs352 q92 _ (hs346 q92 _ (hs339 q92 _ (hs333 q92 _ (hs326 q92 _ (hs320 q92 _ (hs313 q92 _ (hs307 q92 _ (hs300 q92 _ (hs294 q92 _ (hs287 q92 _ (hs281 q92 _ (hs276 q92 _ (hs272 q92 _ (hs268 q92 _ (hs264 q92 _ (hs260 q92 _ (hs256 q92 _ (hs252 q92 _ (hs248 q92 _ (hs244 q92 _ (hs238 q92 _ (hs232 q92 _ (hs225 q92 _ (hs219 q92 _ (hs212 q92 _ (hs206 q92 _ (hs199 q92 _ (hs193 q92 _ (hs186 q92 _ (hs180 q92 _ (hs173 q92 _ (hs167 q92 _ (hs160 q92 _ (hs154 q92 _ (hs147 q92 _ (hs141 q92 _ (hs134 q92 _ (hs128 q92 _ (hs121 q92 _ (hs115 q92 _ (hs108 q92 _ (hs102 q92 _ hG96 hn97.symm) (fun h => h)) hn97.symm) (fun h => h)) hn97.symm) (fun h => h)) hn97.symm) (fun h => h)) hn97.symm) (fun h => h)) hn97.symm) (fun h => h)) hn97.symm) (fun h => h)) hn97.symm) (fun h => h)) hn97.symm) (fun h => h)) hn97.symm) (fun h => h)) hn97.symm) (fun h => h)) hn389) hn389) hn389) hn389) hn389) hn389) hn389) hn389) hn389) hn97.symm) (fun h => h)) hn97.symm) (fun h => h)) hn97.symm) (fun h => h)) hn97.symm) (fun h => h)) hn97.symm) (fun h => h)) hn97.symm) (fun h => h)) hn97.symm) (fun h => h)) hn97.symm)
  have hn391 : q105 ≠ q235 := fun q9 => by have h9 : G231 q105 = some (kx (.inl (D.2 0, 16, .inl (fun _ => 0)))) := (hs232 q105 _ (hs225 q105 _ (hs219 q105 _ (hs212 q105 _ (hs206 q105 _ (hs199 q105 _ (hs193 q105 _ (hs186 q105 _ (hs180 q105 _ (hs173 q105 _ (hs167 q105 _ (hs160 q105 _ (hs154 q105 _ (hs147 q105 _ (hs141 q105 _ (hs134 q105 _ (hs128 q105 _ (hs121 q105 _ (hs115 q105 _ hG109 hn110.symm) (fun h => h)) hn110.symm) (fun h => h)) hn110.symm) (fun h => h)) hn110.symm) (fun h => h)) hn110.symm) (fun h => h)) hn110.symm) (fun h => h)) hn110.symm) (fun h => h)) hn110.symm) (fun h => h)) hn110.symm) (fun h => h)) hn110.symm); rw [q9, hz236] at h9; cases h9
  have hG392 : G371 q105 = some (kx (.inl (D.2 0, 16, .inl (fun _ => 0)))) := (hs372 q105 _ (hs365 q105 _ (hs359 q105 _ (hs352 q105 _ (hs346 q105 _ (hs339 q105 _ (hs333 q105 _ (hs326 q105 _ (hs320 q105 _ (hs313 q105 _ (hs307 q105 _ (hs300 q105 _ (hs294 q105 _ (hs287 q105 _ (hs281 q105 _ (hs276 q105 _ (hs272 q105 _ (hs268 q105 _ (hs264 q105 _ (hs260 q105 _ (hs256 q105 _ (hs252 q105 _ (hs248 q105 _ (hs244 q105 _ (hs238 q105 _ (hs232 q105 _ (hs225 q105 _ (hs219 q105 _ (hs212 q105 _ (hs206 q105 _ (hs199 q105 _ (hs193 q105 _ (hs186 q105 _ (hs180 q105 _ (hs173 q105 _ (hs167 q105 _ (hs160 q105 _ (hs154 q105 _ (hs147 q105 _ (hs141 q105 _ (hs134 q105 _ (hs128 q105 _ (hs121 q105 _ (hs115 q105 _ hG109 hn110.symm) (fun h => h)) hn110.symm) (fun h => h)) hn110.symm) (fun h => h)) hn110.symm) (fun h => h)) hn110.symm) (fun h => h)) hn110.symm) (fun h => h)) hn110.symm) (fun h => h)) hn110.symm) (fun h => h)) hn110.symm) (fun h => h)) hn110.symm) (fun h => h)) hn391) hn391) hn391) hn391) hn391) hn391) hn391) hn391) hn391) hn110.symm) (fun h => h)) hn110.symm) (fun h => h)) hn110.symm) (fun h => h)) hn110.symm) (fun h => h)) hn110.symm) (fun h => h)) hn110.symm) (fun h => h)) hn110.symm) (fun h => h)) hn110.symm)
  have hn393 : q118 ≠ q235 := fun q9 => by have h9 : G231 q118 = some (kL D 16 tU) := (hs232 q118 _ (hs225 q118 _ (hs219 q118 _ (hs212 q118 _ (hs206 q118 _ (hs199 q118 _ (hs193 q118 _ (hs186 q118 _ (hs180 q118 _ (hs173 q118 _ (hs167 q118 _ (hs160 q118 _ (hs154 q118 _ (hs147 q118 _ (hs141 q118 _ (hs134 q118 _ (hs128 q118 _ hG122 hn123.symm) (fun h => h)) hn123.symm) (fun h => h)) hn123.symm) (fun h => h)) hn123.symm) (fun h => h)) hn123.symm) (fun h => h)) hn123.symm) (fun h => h)) hn123.symm) (fun h => h)) hn123.symm) (fun h => h)) hn123.symm); rw [q9, hz236] at h9; cases h9
  have hG394 : G371 q118 = some (kL D 16 tU) := (hs372 q118 _ (hs365 q118 _ (hs359 q118 _ (hs352 q118 _ (hs346 q118 _ (hs339 q118 _ (hs333 q118 _ (hs326 q118 _ (hs320 q118 _ (hs313 q118 _ (hs307 q118 _ (hs300 q118 _ (hs294 q118 _ (hs287 q118 _ (hs281 q118 _ (hs276 q118 _ (hs272 q118 _ (hs268 q118 _ (hs264 q118 _ (hs260 q118 _ (hs256 q118 _ (hs252 q118 _ (hs248 q118 _ (hs244 q118 _ (hs238 q118 _ (hs232 q118 _ (hs225 q118 _ (hs219 q118 _ (hs212 q118 _ (hs206 q118 _ (hs199 q118 _ (hs193 q118 _ (hs186 q118 _ (hs180 q118 _ (hs173 q118 _ (hs167 q118 _ (hs160 q118 _ (hs154 q118 _ (hs147 q118 _ (hs141 q118 _ (hs134 q118 _ (hs128 q118 _ hG122 hn123.symm) (fun h => h)) hn123.symm) (fun h => h)) hn123.symm) (fun h => h)) hn123.symm) (fun h => h)) hn123.symm) (fun h => h)) hn123.symm) (fun h => h)) hn123.symm) (fun h => h)) hn123.symm) (fun h => h)) hn123.symm) (fun h => h)) hn393) hn393) hn393) hn393) hn393) hn393) hn393) hn393) hn393) hn123.symm) (fun h => h)) hn123.symm) (fun h => h)) hn123.symm) (fun h => h)) hn123.symm) (fun h => h)) hn123.symm) (fun h => h)) hn123.symm) (fun h => h)) hn123.symm) (fun h => h)) hn123.symm)
  have hn395 : q131 ≠ q235 := fun q9 => by have h9 : G231 q131 = some (kL D 16 tU) := (hs232 q131 _ (hs225 q131 _ (hs219 q131 _ (hs212 q131 _ (hs206 q131 _ (hs199 q131 _ (hs193 q131 _ (hs186 q131 _ (hs180 q131 _ (hs173 q131 _ (hs167 q131 _ (hs160 q131 _ (hs154 q131 _ (hs147 q131 _ (hs141 q131 _ hG135 hn136.symm) (fun h => h)) hn136.symm) (fun h => h)) hn136.symm) (fun h => h)) hn136.symm) (fun h => h)) hn136.symm) (fun h => h)) hn136.symm) (fun h => h)) hn136.symm) (fun h => h)) hn136.symm); rw [q9, hz236] at h9; cases h9
  have hG396 : G371 q131 = some (kL D 16 tU) := (hs372 q131 _ (hs365 q131 _ (hs359 q131 _ (hs352 q131 _ (hs346 q131 _ (hs339 q131 _ (hs333 q131 _ (hs326 q131 _ (hs320 q131 _ (hs313 q131 _ (hs307 q131 _ (hs300 q131 _ (hs294 q131 _ (hs287 q131 _ (hs281 q131 _ (hs276 q131 _ (hs272 q131 _ (hs268 q131 _ (hs264 q131 _ (hs260 q131 _ (hs256 q131 _ (hs252 q131 _ (hs248 q131 _ (hs244 q131 _ (hs238 q131 _ (hs232 q131 _ (hs225 q131 _ (hs219 q131 _ (hs212 q131 _ (hs206 q131 _ (hs199 q131 _ (hs193 q131 _ (hs186 q131 _ (hs180 q131 _ (hs173 q131 _ (hs167 q131 _ (hs160 q131 _ (hs154 q131 _ (hs147 q131 _ (hs141 q131 _ hG135 hn136.symm) (fun h => h)) hn136.symm) (fun h => h)) hn136.symm) (fun h => h)) hn136.symm) (fun h => h)) hn136.symm) (fun h => h)) hn136.symm) (fun h => h)) hn136.symm) (fun h => h)) hn136.symm) (fun h => h)) hn395) hn395) hn395) hn395) hn395) hn395) hn395) hn395) hn395) hn136.symm) (fun h => h)) hn136.symm) (fun h => h)) hn136.symm) (fun h => h)) hn136.symm) (fun h => h)) hn136.symm) (fun h => h)) hn136.symm) (fun h => h)) hn136.symm) (fun h => h)) hn136.symm)
  have hn397 : q144 ≠ q235 := fun q9 => by have h9 : G231 q144 = some (kA D 0 16 tT) := (hs232 q144 _ (hs225 q144 _ (hs219 q144 _ (hs212 q144 _ (hs206 q144 _ (hs199 q144 _ (hs193 q144 _ (hs186 q144 _ (hs180 q144 _ (hs173 q144 _ (hs167 q144 _ (hs160 q144 _ (hs154 q144 _ hG148 hn149.symm) (fun h => h)) hn149.symm) (fun h => h)) hn149.symm) (fun h => h)) hn149.symm) (fun h => h)) hn149.symm) (fun h => h)) hn149.symm) (fun h => h)) hn149.symm); rw [q9, hz236] at h9; cases h9
  have hG398 : G371 q144 = some (kA D 0 16 tT) := (hs372 q144 _ (hs365 q144 _ (hs359 q144 _ (hs352 q144 _ (hs346 q144 _ (hs339 q144 _ (hs333 q144 _ (hs326 q144 _ (hs320 q144 _ (hs313 q144 _ (hs307 q144 _ (hs300 q144 _ (hs294 q144 _ (hs287 q144 _ (hs281 q144 _ (hs276 q144 _ (hs272 q144 _ (hs268 q144 _ (hs264 q144 _ (hs260 q144 _ (hs256 q144 _ (hs252 q144 _ (hs248 q144 _ (hs244 q144 _ (hs238 q144 _ (hs232 q144 _ (hs225 q144 _ (hs219 q144 _ (hs212 q144 _ (hs206 q144 _ (hs199 q144 _ (hs193 q144 _ (hs186 q144 _ (hs180 q144 _ (hs173 q144 _ (hs167 q144 _ (hs160 q144 _ (hs154 q144 _ hG148 hn149.symm) (fun h => h)) hn149.symm) (fun h => h)) hn149.symm) (fun h => h)) hn149.symm) (fun h => h)) hn149.symm) (fun h => h)) hn149.symm) (fun h => h)) hn149.symm) (fun h => h)) hn397) hn397) hn397) hn397) hn397) hn397) hn397) hn397) hn397) hn149.symm) (fun h => h)) hn149.symm) (fun h => h)) hn149.symm) (fun h => h)) hn149.symm) (fun h => h)) hn149.symm) (fun h => h)) hn149.symm) (fun h => h)) hn149.symm) (fun h => h)) hn149.symm)
  have hn399 : q157 ≠ q235 := fun q9 => by have h9 : G231 q157 = some (kA D 0 16 tT) := (hs232 q157 _ (hs225 q157 _ (hs219 q157 _ (hs212 q157 _ (hs206 q157 _ (hs199 q157 _ (hs193 q157 _ (hs186 q157 _ (hs180 q157 _ (hs173 q157 _ (hs167 q157 _ hG161 hn162.symm) (fun h => h)) hn162.symm) (fun h => h)) hn162.symm) (fun h => h)) hn162.symm) (fun h => h)) hn162.symm) (fun h => h)) hn162.symm); rw [q9, hz236] at h9; cases h9
  have hG400 : G371 q157 = some (kA D 0 16 tT) := (hs372 q157 _ (hs365 q157 _ (hs359 q157 _ (hs352 q157 _ (hs346 q157 _ (hs339 q157 _ (hs333 q157 _ (hs326 q157 _ (hs320 q157 _ (hs313 q157 _ (hs307 q157 _ (hs300 q157 _ (hs294 q157 _ (hs287 q157 _ (hs281 q157 _ (hs276 q157 _ (hs272 q157 _ (hs268 q157 _ (hs264 q157 _ (hs260 q157 _ (hs256 q157 _ (hs252 q157 _ (hs248 q157 _ (hs244 q157 _ (hs238 q157 _ (hs232 q157 _ (hs225 q157 _ (hs219 q157 _ (hs212 q157 _ (hs206 q157 _ (hs199 q157 _ (hs193 q157 _ (hs186 q157 _ (hs180 q157 _ (hs173 q157 _ (hs167 q157 _ hG161 hn162.symm) (fun h => h)) hn162.symm) (fun h => h)) hn162.symm) (fun h => h)) hn162.symm) (fun h => h)) hn162.symm) (fun h => h)) hn162.symm) (fun h => h)) hn399) hn399) hn399) hn399) hn399) hn399) hn399) hn399) hn399) hn162.symm) (fun h => h)) hn162.symm) (fun h => h)) hn162.symm) (fun h => h)) hn162.symm) (fun h => h)) hn162.symm) (fun h => h)) hn162.symm) (fun h => h)) hn162.symm) (fun h => h)) hn162.symm)
  have hn401 : q170 ≠ q235 := fun q9 => by have h9 : G231 q170 = some (kL D 17600 tU) := (hs232 q170 _ (hs225 q170 _ (hs219 q170 _ (hs212 q170 _ (hs206 q170 _ (hs199 q170 _ (hs193 q170 _ (hs186 q170 _ (hs180 q170 _ hG174 hn175.symm) (fun h => h)) hn175.symm) (fun h => h)) hn175.symm) (fun h => h)) hn175.symm) (fun h => h)) hn175.symm); rw [q9, hz236] at h9; cases h9
  have hG402 : G371 q170 = some (kL D 17600 tU) := (hs372 q170 _ (hs365 q170 _ (hs359 q170 _ (hs352 q170 _ (hs346 q170 _ (hs339 q170 _ (hs333 q170 _ (hs326 q170 _ (hs320 q170 _ (hs313 q170 _ (hs307 q170 _ (hs300 q170 _ (hs294 q170 _ (hs287 q170 _ (hs281 q170 _ (hs276 q170 _ (hs272 q170 _ (hs268 q170 _ (hs264 q170 _ (hs260 q170 _ (hs256 q170 _ (hs252 q170 _ (hs248 q170 _ (hs244 q170 _ (hs238 q170 _ (hs232 q170 _ (hs225 q170 _ (hs219 q170 _ (hs212 q170 _ (hs206 q170 _ (hs199 q170 _ (hs193 q170 _ (hs186 q170 _ (hs180 q170 _ hG174 hn175.symm) (fun h => h)) hn175.symm) (fun h => h)) hn175.symm) (fun h => h)) hn175.symm) (fun h => h)) hn175.symm) (fun h => h)) hn401) hn401) hn401) hn401) hn401) hn401) hn401) hn401) hn401) hn175.symm) (fun h => h)) hn175.symm) (fun h => h)) hn175.symm) (fun h => h)) hn175.symm) (fun h => h)) hn175.symm) (fun h => h)) hn175.symm) (fun h => h)) hn175.symm) (fun h => h)) hn175.symm)
  have hn403 : q183 ≠ q235 := fun q9 => by have h9 : G231 q183 = some (kA D 0 16 (leN 0)) := (hs232 q183 _ (hs225 q183 _ (hs219 q183 _ (hs212 q183 _ (hs206 q183 _ (hs199 q183 _ (hs193 q183 _ hG187 hn188.symm) (fun h => h)) hn188.symm) (fun h => h)) hn188.symm) (fun h => h)) hn188.symm); rw [q9, hz236] at h9; cases h9
  have hG404 : G371 q183 = some (kA D 0 16 (leN 0)) := (hs372 q183 _ (hs365 q183 _ (hs359 q183 _ (hs352 q183 _ (hs346 q183 _ (hs339 q183 _ (hs333 q183 _ (hs326 q183 _ (hs320 q183 _ (hs313 q183 _ (hs307 q183 _ (hs300 q183 _ (hs294 q183 _ (hs287 q183 _ (hs281 q183 _ (hs276 q183 _ (hs272 q183 _ (hs268 q183 _ (hs264 q183 _ (hs260 q183 _ (hs256 q183 _ (hs252 q183 _ (hs248 q183 _ (hs244 q183 _ (hs238 q183 _ (hs232 q183 _ (hs225 q183 _ (hs219 q183 _ (hs212 q183 _ (hs206 q183 _ (hs199 q183 _ (hs193 q183 _ hG187 hn188.symm) (fun h => h)) hn188.symm) (fun h => h)) hn188.symm) (fun h => h)) hn188.symm) (fun h => h)) hn403) hn403) hn403) hn403) hn403) hn403) hn403) hn403) hn403) hn188.symm) (fun h => h)) hn188.symm) (fun h => h)) hn188.symm) (fun h => h)) hn188.symm) (fun h => h)) hn188.symm) (fun h => h)) hn188.symm) (fun h => h)) hn188.symm) (fun h => h)) hn188.symm)
  have hn405 : q196 ≠ q235 := fun q9 => by have h9 : G231 q196 = some (kA D 0 200 by8) := (hs232 q196 _ (hs225 q196 _ (hs219 q196 _ (hs212 q196 _ (hs206 q196 _ hG200 hn201.symm) (fun h => h)) hn201.symm) (fun h => h)) hn201.symm); rw [q9, hz236] at h9; cases h9
  have hG406 : G371 q196 = some (kA D 0 200 by8) := (hs372 q196 _ (hs365 q196 _ (hs359 q196 _ (hs352 q196 _ (hs346 q196 _ (hs339 q196 _ (hs333 q196 _ (hs326 q196 _ (hs320 q196 _ (hs313 q196 _ (hs307 q196 _ (hs300 q196 _ (hs294 q196 _ (hs287 q196 _ (hs281 q196 _ (hs276 q196 _ (hs272 q196 _ (hs268 q196 _ (hs264 q196 _ (hs260 q196 _ (hs256 q196 _ (hs252 q196 _ (hs248 q196 _ (hs244 q196 _ (hs238 q196 _ (hs232 q196 _ (hs225 q196 _ (hs219 q196 _ (hs212 q196 _ (hs206 q196 _ hG200 hn201.symm) (fun h => h)) hn201.symm) (fun h => h)) hn201.symm) (fun h => h)) hn405) hn405) hn405) hn405) hn405) hn405) hn405) hn405) hn405) hn201.symm) (fun h => h)) hn201.symm) (fun h => h)) hn201.symm) (fun h => h)) hn201.symm) (fun h => h)) hn201.symm) (fun h => h)) hn201.symm) (fun h => h)) hn201.symm) (fun h => h)) hn201.symm)
  have hn407 : q209 ≠ q235 := fun q9 => by have h9 : G231 q209 = some (kA D 0 240 by8) := (hs232 q209 _ (hs225 q209 _ (hs219 q209 _ hG213 hn214.symm) (fun h => h)) hn214.symm); rw [q9, hz236] at h9; cases h9
  have hG408 : G371 q209 = some (kA D 0 240 by8) := (hs372 q209 _ (hs365 q209 _ (hs359 q209 _ (hs352 q209 _ (hs346 q209 _ (hs339 q209 _ (hs333 q209 _ (hs326 q209 _ (hs320 q209 _ (hs313 q209 _ (hs307 q209 _ (hs300 q209 _ (hs294 q209 _ (hs287 q209 _ (hs281 q209 _ (hs276 q209 _ (hs272 q209 _ (hs268 q209 _ (hs264 q209 _ (hs260 q209 _ (hs256 q209 _ (hs252 q209 _ (hs248 q209 _ (hs244 q209 _ (hs238 q209 _ (hs232 q209 _ (hs225 q209 _ (hs219 q209 _ hG213 hn214.symm) (fun h => h)) hn214.symm) (fun h => h)) hn407) hn407) hn407) hn407) hn407) hn407) hn407) hn407) hn407) hn214.symm) (fun h => h)) hn214.symm) (fun h => h)) hn214.symm) (fun h => h)) hn214.symm) (fun h => h)) hn214.symm) (fun h => h)) hn214.symm) (fun h => h)) hn214.symm) (fun h => h)) hn214.symm)
  have hn409 : q222 ≠ q235 := fun q9 => by have h9 : G231 q222 = some (kA D 0 1920 by8) := (hs232 q222 _ hG226 hn227.symm); rw [q9, hz236] at h9; cases h9
  have hG410 : G371 q222 = some (kA D 0 1920 by8) := (hs372 q222 _ (hs365 q222 _ (hs359 q222 _ (hs352 q222 _ (hs346 q222 _ (hs339 q222 _ (hs333 q222 _ (hs326 q222 _ (hs320 q222 _ (hs313 q222 _ (hs307 q222 _ (hs300 q222 _ (hs294 q222 _ (hs287 q222 _ (hs281 q222 _ (hs276 q222 _ (hs272 q222 _ (hs268 q222 _ (hs264 q222 _ (hs260 q222 _ (hs256 q222 _ (hs252 q222 _ (hs248 q222 _ (hs244 q222 _ (hs238 q222 _ (hs232 q222 _ hG226 hn227.symm) (fun h => h)) hn409) hn409) hn409) hn409) hn409) hn409) hn409) hn409) hn409) hn227.symm) (fun h => h)) hn227.symm) (fun h => h)) hn227.symm) (fun h => h)) hn227.symm) (fun h => h)) hn227.symm) (fun h => h)) hn227.symm) (fun h => h)) hn227.symm) (fun h => h)) hn227.symm)
  have hG411 : G371 q235 = some (kA D 0 8 okS) := (hs372 q235 _ (hs365 q235 _ (hs359 q235 _ (hs352 q235 _ (hs346 q235 _ (hs339 q235 _ (hs333 q235 _ (hs326 q235 _ (hs320 q235 _ (hs313 q235 _ (hs307 q235 _ (hs300 q235 _ (hs294 q235 _ (hs287 q235 _ (hs281 q235 _ hG277 hn240.symm) (fun h => h)) hn240.symm) (fun h => h)) hn240.symm) (fun h => h)) hn240.symm) (fun h => h)) hn240.symm) (fun h => h)) hn240.symm) (fun h => h)) hn240.symm) (fun h => h)) hn240.symm)
  have hG412 : G371 q284 = some (kA D 0 240 tT) := (hs372 q284 _ (hs365 q284 _ (hs359 q284 _ (hs352 q284 _ (hs346 q284 _ (hs339 q284 _ (hs333 q284 _ (hs326 q284 _ (hs320 q284 _ (hs313 q284 _ (hs307 q284 _ (hs300 q284 _ (hs294 q284 _ hG288 hn289.symm) (fun h => h)) hn289.symm) (fun h => h)) hn289.symm) (fun h => h)) hn289.symm) (fun h => h)) hn289.symm) (fun h => h)) hn289.symm) (fun h => h)) hn289.symm)
  have hG413 : G371 q297 = some (kA D 0 16 by8) := (hs372 q297 _ (hs365 q297 _ (hs359 q297 _ (hs352 q297 _ (hs346 q297 _ (hs339 q297 _ (hs333 q297 _ (hs326 q297 _ (hs320 q297 _ (hs313 q297 _ (hs307 q297 _ hG301 hn302.symm) (fun h => h)) hn302.symm) (fun h => h)) hn302.symm) (fun h => h)) hn302.symm) (fun h => h)) hn302.symm) (fun h => h)) hn302.symm)
  have hG414 : G371 q310 = some (kA D 0 16 by8) := (hs372 q310 _ (hs365 q310 _ (hs359 q310 _ (hs352 q310 _ (hs346 q310 _ (hs339 q310 _ (hs333 q310 _ (hs326 q310 _ (hs320 q310 _ hG314 hn315.symm) (fun h => h)) hn315.symm) (fun h => h)) hn315.symm) (fun h => h)) hn315.symm) (fun h => h)) hn315.symm)
  have hG415 : G371 q323 = some (kA D 0 16 by8) := (hs372 q323 _ (hs365 q323 _ (hs359 q323 _ (hs352 q323 _ (hs346 q323 _ (hs339 q323 _ (hs333 q323 _ hG327 hn328.symm) (fun h => h)) hn328.symm) (fun h => h)) hn328.symm) (fun h => h)) hn328.symm)
  have hG416 : G371 q336 = some (kA D 0 16 tT) := (hs372 q336 _ (hs365 q336 _ (hs359 q336 _ (hs352 q336 _ (hs346 q336 _ hG340 hn341.symm) (fun h => h)) hn341.symm) (fun h => h)) hn341.symm)
  have hG417 : G371 q349 = some (kA D 0 16 by8) := (hs372 q349 _ (hs365 q349 _ (hs359 q349 _ hG353 hn354.symm) (fun h => h)) hn354.symm)
  have hG418 : G371 q362 = some (kA D 0 16 by8) := (hs372 q362 _ hG366 hn367.symm)
  have L_255 : ∀ (n9 : Nat) (k : Nat) (y1 : Int32) (H : Heap) (locs : List Loc) (ls : Array Slot), k ≤ 256 → y1 = nI k → 256 - k < n9 → gw_I D Hs G371 s.heap H locs → lv_has ls 6 [(1, .int y1), (0, .ref a)] → W p l e rm_Mo_init s m args below meth c H locs 26 23568 (MQ below (gw_Qv D Hs (fun G1 => (∃ q, mdl D G1 a q 0 0 0 0 0 (fun _ => 0) (fun _ => 0) (fun _ => 0) (fun _ => 0) (fun _ => 0) ∧ ∀ k, mo_is k = true → G (q k) = none) ∧ gw_fr (fun b => b = a) G G1)) args s 26 23568 (gw_A Hs)) (F0 m 255 ls []) := by
    intro n9
    induction n9 with
    | zero =>
      intro k y1 H locs ls h256 hk hm hI hl
      exact absurd hm (Nat.not_lt_zero _)
    | succ n9 ih_255 =>
      intro k y1 H locs ls h256 hk hm_255 hI hl
      refine lv_iload_n hx hb d_Mo_init_255 rfl (lv_at hl 0 rfl) ?_
      refine lv_sipush (v := 256) hx hb d_Mo_init_256 (by decide) ?_
      refine lv_icmp_ge (tgt := 403) hx hb d_Mo_init_259 (by decide) (fun c_259 => ?_) (fun c_259 => ?_)
      · have hnone : ∀ k, mo_is k = true → G ((fup (fup (fup (fup (fup (fup (fup (fup (fup (fup (fup (fup (fup (fup (fup (fup (fup (fup (fup (fup (fup (fup (fup (fup (fup (fup (fun _ => 0) 1 q1) 2 q14) 3 q27) 4 q40) 5 q53) 6 q66) 7 q79) 8 q92) 9 q105) 10 q118) 11 q131) 12 q144) 13 q157) 14 q170) 15 q183) 16 q196) 18 q209) 20 q222) 21 q235) 22 q284) 24 q297) 25 q310) 26 q323) 27 q336) 28 q349) 29 q362) k) = none := by
          intro k hk
          have hk30 : k < 30 := by simp [mo_is] at hk; exact hk.2
          match k, hk30, hk with
          | 0, _, h => cases h
          | 1, _, _ => exact hy7
          | 2, _, _ => exact hy20
          | 3, _, _ => exact hy33
          | 4, _, _ => exact hy46
          | 5, _, _ => exact hy59
          | 6, _, _ => exact hy72
          | 7, _, _ => exact hy85
          | 8, _, _ => exact hy98
          | 9, _, _ => exact hy111
          | 10, _, _ => exact hy124
          | 11, _, _ => exact hy137
          | 12, _, _ => exact hy150
          | 13, _, _ => exact hy163
          | 14, _, _ => exact hy176
          | 15, _, _ => exact hy189
          | 16, _, _ => exact hy202
          | 17, _, h => cases h
          | 18, _, _ => exact hy215
          | 19, _, h => cases h
          | 20, _, _ => exact hy228
          | 21, _, _ => exact hy241
          | 22, _, _ => exact hy290
          | 23, _, h => cases h
          | 24, _, _ => exact hy303
          | 25, _, _ => exact hy316
          | 26, _, _ => exact hy329
          | 27, _, _ => exact hy342
          | 28, _, _ => exact hy355
          | 29, _, _ => exact hy368
          | k + 30, h, _ => exact absurd h (Nat.not_lt.mpr (Nat.le_add_left _ _))
        have hknd : ∀ k, mo_is k = true → G371 ((fup (fup (fup (fup (fup (fup (fup (fup (fup (fup (fup (fup (fup (fup (fup (fup (fup (fup (fup (fup (fup (fup (fup (fup (fup (fup (fun _ => 0) 1 q1) 2 q14) 3 q27) 4 q40) 5 q53) 6 q66) 7 q79) 8 q92) 9 q105) 10 q118) 11 q131) 12 q144) 13 q157) 14 q170) 15 q183) 16 q196) 18 q209) 20 q222) 21 q235) 22 q284) 24 q297) 25 q310) 26 q323) 27 q336) 28 q349) 29 q362) k) = some (mo_kind D 0 (fun _ => 0) (fun _ => 0) (fun _ => 0) (fun _ => 0) (fun _ => 0) k) := by
          intro k hk
          have hk30 : k < 30 := by simp [mo_is] at hk; exact hk.2
          match k, hk30, hk with
          | 0, _, h => cases h
          | 1, _, _ => exact hG376
          | 2, _, _ => exact hG378
          | 3, _, _ => exact hG380
          | 4, _, _ => exact hG382
          | 5, _, _ => exact hG384
          | 6, _, _ => exact hG386
          | 7, _, _ => exact hG388
          | 8, _, _ => exact hG390
          | 9, _, _ => exact hG392
          | 10, _, _ => exact hG394
          | 11, _, _ => exact hG396
          | 12, _, _ => exact hG398
          | 13, _, _ => exact hG400
          | 14, _, _ => exact hG402
          | 15, _, _ => exact hG404
          | 16, _, _ => exact hG406
          | 17, _, h => cases h
          | 18, _, _ => exact hG408
          | 19, _, h => cases h
          | 20, _, _ => exact hG410
          | 21, _, _ => exact hG411
          | 22, _, _ => exact hG412
          | 23, _, h => cases h
          | 24, _, _ => exact hG413
          | 25, _, _ => exact hG414
          | 26, _, _ => exact hG415
          | 27, _, _ => exact hG416
          | 28, _, _ => exact hG417
          | 29, _, _ => exact hG418
          | k + 30, h, _ => exact absurd h (Nat.not_lt.mpr (Nat.le_add_left _ _))
        refine gw_vret M hr hlo hI d_Mo_init_403 ⟨⟨(fup (fup (fup (fup (fup (fup (fup (fup (fup (fup (fup (fup (fup (fup (fup (fup (fup (fup (fup (fup (fup (fup (fup (fup (fup (fup (fun _ => 0) 1 q1) 2 q14) 3 q27) 4 q40) 5 q53) 6 q66) 7 q79) 8 q92) 9 q105) 10 q118) 11 q131) 12 q144) 13 q157) 14 q170) 15 q183) 16 q196) 18 q209) 20 q222) 21 q235) 22 q284) 24 q297) 25 q310) 26 q323) 27 q336) 28 q349) 29 q362), ⟨hG373, fun k hk => ⟨hknd k hk, fun e => ?_⟩, fun j k hj hk e => hmi.2 j k (mi_S j hj) (mi_S k hk) e, Nat.zero_le _, Nat.zero_le _, Nat.zero_le _⟩, hnone⟩, hf374⟩
        have h9 := hnone k hk; rw [e, hR] at h9; cases h9
      · have hlt : k < 256 := nb_lt (n := 256) hk c_259 (by decide) (z_31 h256)
        refine lv_iconst (v := 0) hx hb d_Mo_init_262 (by decide) ?_
        refine lv_istore_n (lv' := [(2, .int 0), (1, .int y1), (0, .ref a)]) hx hb d_Mo_init_263 rfl hl (by decide) rfl (fun ls hl => ?_)
        refine lv_iconst (v := 1) hx hb d_Mo_init_264 (by decide) ?_
        refine lv_istore_n (lv' := [(3, .int 1), (2, .int 0), (1, .int y1), (0, .ref a)]) hx hb d_Mo_init_265 rfl hl (by decide) rfl (fun ls hl => ?_)
        have L_266 : ∀ (n9 : Nat) (j : Nat) (y2 : Int32) (y3 : Int32) (H : Heap) (locs : List Loc) (ls : Array Slot), j ≤ 256 → y3 = nI j → 256 - j < n9 → gw_I D Hs G371 s.heap H locs → lv_has ls 6 [(3, .int y3), (2, .int y2), (1, .int y1), (0, .ref a)] → W p l e rm_Mo_init s m args below meth c H locs 26 23568 (MQ below (gw_Qv D Hs (fun G1 => (∃ q, mdl D G1 a q 0 0 0 0 0 (fun _ => 0) (fun _ => 0) (fun _ => 0) (fun _ => 0) (fun _ => 0) ∧ ∀ k, mo_is k = true → G (q k) = none) ∧ gw_fr (fun b => b = a) G G1)) args s 26 23568 (gw_A Hs)) (F0 m 266 ls []) := by
          intro n9
          induction n9 with
          | zero =>
            intro j y2 y3 H locs ls hj hkj hm hI hl
            exact absurd hm (Nat.not_lt_zero _)
          | succ n9 ih_266 =>
            intro j y2 y3 H locs ls hj hkj hm_266 hI hl
            refine lv_iload_n hx hb d_Mo_init_266 rfl (lv_at hl 0 rfl) ?_
            refine lv_sipush (v := 256) hx hb d_Mo_init_267 (by decide) ?_
            refine lv_icmp_ge (tgt := 294) hx hb d_Mo_init_270 (by decide) (fun c_270 => ?_) (fun c_270 => ?_)
            · refine lv_iconst (v := 0) hx hb d_Mo_init_294 (by decide) ?_
              refine lv_istore_n (lv' := [(3, .int 0), (2, .int y2), (1, .int y1), (0, .ref a)]) hx hb d_Mo_init_295 rfl hl (by decide) rfl (fun ls hl => ?_)
              refine lv_iconst (v := 0) hx hb d_Mo_init_296 (by decide) ?_
              refine lv_istore (lv' := [(4, .int 0), (3, .int 0), (2, .int y2), (1, .int y1), (0, .ref a)]) hx hb d_Mo_init_297 hl (by decide) rfl (fun ls hl => ?_)
              have L_299 : ∀ (n9 : Nat) (i : Nat) (y3 : Int32) (y4 : Int32) (H : Heap) (locs : List Loc) (ls : Array Slot), i ≤ 8 → y4 = nI i → uN y3 < 2 ^ i → 8 - i < n9 → gw_I D Hs G371 s.heap H locs → lv_has ls 6 [(4, .int y4), (3, .int y3), (2, .int y2), (1, .int y1), (0, .ref a)] → W p l e rm_Mo_init s m args below meth c H locs 26 23568 (MQ below (gw_Qv D Hs (fun G1 => (∃ q, mdl D G1 a q 0 0 0 0 0 (fun _ => 0) (fun _ => 0) (fun _ => 0) (fun _ => 0) (fun _ => 0) ∧ ∀ k, mo_is k = true → G (q k) = none) ∧ gw_fr (fun b => b = a) G G1)) args s 26 23568 (gw_A Hs)) (F0 m 299 ls []) := by
                intro n9
                induction n9 with
                | zero =>
                  intro i y3 y4 H locs ls hi hki hv hm hI hl
                  exact absurd hm (Nat.not_lt_zero _)
                | succ n9 ih_299 =>
                  intro i y3 y4 H locs ls hi hki hv hm_299 hI hl
                  refine lv_iload hx hb d_Mo_init_299 (lv_at hl 0 rfl) ?_
                  refine lv_bipush (v := 8) hx hb d_Mo_init_301 (by decide) ?_
                  refine lv_icmp_ge (tgt := 390) hx hb d_Mo_init_303 (by decide) (fun c_303 => ?_) (fun c_303 => ?_)
                  · have hi8 : i = 8 := Nat.le_antisymm hi (nb_ge (n := 8) hki c_303 (by decide) (z_31 hi))
                    subst hi8
                    refine lv_aload_n hx hb d_Mo_init_390 rfl (lv_at hl 4 rfl) ?_
                    refine gw_get M hK hI hG373 i_Mo rfl 1 (by decide) f_Mo_7 rfl (Pv := fun v => v = .ref q1) (fun x hx => ⟨_, _, hx, rfl, rfl⟩) d_Mo_init_391 (fun v hv => ?_)
                    subst hv
                    refine lv_iload_n hx hb d_Mo_init_394 rfl (lv_at hl 3 rfl) ?_
                    refine lv_iload_n hx hb d_Mo_init_395 rfl (lv_at hl 1 rfl) ?_
                    refine gw_iast M hK hI hG376 (nb_in hk hlt) (show uN _ < 256 from hv) d_Mo_init_396 (fun H locs hI => ?_)
                    obtain ⟨x419, e_x419⟩ : ∃ ww9 : Int32, ww9 = y1 + 1 := ⟨_, rfl⟩
                    refine lv_iinc (v := x419) (lv' := [(1, .int x419), (4, .int y4), (3, .int y3), (2, .int y2), (0, .ref a)]) hx hb d_Mo_init_397 hl (k := 3) rfl (by rw [e_x419]; rfl) (by decide) rfl (fun ls hl => ?_)
                    refine lv_goto (tgt := 255) hx hb d_Mo_init_400 (by decide) ?_
                    exact ih_255 (k + 1) x419 _ _ _ hlt (nb_s e_x419 hk) (z_m hm_255 hlt) hI (lv_sub hl [0, 4] rfl)
                  · have hlti : i < 8 := nb_lt (n := 8) hki c_303 (by decide) (z_31 hi)
                    refine lv_bipush (v := 99) hx hb d_Mo_init_306 (by decide) ?_
                    refine lv_iload hx hb d_Mo_init_308 (lv_at hl 0 rfl) ?_
                    refine lv_ishr hx hb d_Mo_init_310 ?_
                    refine lv_iconst (v := 1) hx hb d_Mo_init_311 (by decide) ?_
                    refine lv_iand hx hb d_Mo_init_312 ?_
                    refine lv_topi (fun x420 e_x420 => ?_)
                    refine lv_istore (lv' := [(5, .int x420), (4, .int y4), (3, .int y3), (2, .int y2), (1, .int y1), (0, .ref a)]) hx hb d_Mo_init_313 hl (by decide) rfl (fun ls hl => ?_)
                    refine lv_iload hx hb d_Mo_init_315 (lv_at hl 0 rfl) ?_
                    refine lv_iload_n hx hb d_Mo_init_317 rfl (lv_at hl 3 rfl) ?_
                    refine lv_iload hx hb d_Mo_init_318 (lv_at hl 1 rfl) ?_
                    refine lv_ishr hx hb d_Mo_init_320 ?_
                    refine lv_iconst (v := 1) hx hb d_Mo_init_321 (by decide) ?_
                    refine lv_iand hx hb d_Mo_init_322 ?_
                    refine lv_ixor hx hb d_Mo_init_323 ?_
                    refine lv_iload_n hx hb d_Mo_init_324 rfl (lv_at hl 3 rfl) ?_
                    refine lv_iload hx hb d_Mo_init_325 (lv_at hl 1 rfl) ?_
                    refine lv_iconst (v := 4) hx hb d_Mo_init_327 (by decide) ?_
                    refine lv_iadd hx hb d_Mo_init_328 ?_
                    refine lv_bipush (v := 8) hx hb d_Mo_init_329 (by decide) ?_
                    refine lv_irem hx hb d_Mo_init_331 (by decide) ?_
                    refine lv_ishr hx hb d_Mo_init_332 ?_
                    refine lv_iconst (v := 1) hx hb d_Mo_init_333 (by decide) ?_
                    refine lv_iand hx hb d_Mo_init_334 ?_
                    refine lv_ixor hx hb d_Mo_init_335 ?_
                    refine lv_iload_n hx hb d_Mo_init_336 rfl (lv_at hl 3 rfl) ?_
                    refine lv_iload hx hb d_Mo_init_337 (lv_at hl 1 rfl) ?_
                    refine lv_iconst (v := 5) hx hb d_Mo_init_339 (by decide) ?_
                    refine lv_iadd hx hb d_Mo_init_340 ?_
                    refine lv_bipush (v := 8) hx hb d_Mo_init_341 (by decide) ?_
                    refine lv_irem hx hb d_Mo_init_343 (by decide) ?_
                    refine lv_ishr hx hb d_Mo_init_344 ?_
                    refine lv_iconst (v := 1) hx hb d_Mo_init_345 (by decide) ?_
                    refine lv_iand hx hb d_Mo_init_346 ?_
                    refine lv_ixor hx hb d_Mo_init_347 ?_
                    refine lv_iload_n hx hb d_Mo_init_348 rfl (lv_at hl 3 rfl) ?_
                    refine lv_iload hx hb d_Mo_init_349 (lv_at hl 1 rfl) ?_
                    refine lv_bipush (v := 6) hx hb d_Mo_init_351 (by decide) ?_
                    refine lv_iadd hx hb d_Mo_init_353 ?_
                    refine lv_bipush (v := 8) hx hb d_Mo_init_354 (by decide) ?_
                    refine lv_irem hx hb d_Mo_init_356 (by decide) ?_
                    refine lv_ishr hx hb d_Mo_init_357 ?_
                    refine lv_iconst (v := 1) hx hb d_Mo_init_358 (by decide) ?_
                    refine lv_iand hx hb d_Mo_init_359 ?_
                    refine lv_ixor hx hb d_Mo_init_360 ?_
                    refine lv_iload_n hx hb d_Mo_init_361 rfl (lv_at hl 3 rfl) ?_
                    refine lv_iload hx hb d_Mo_init_362 (lv_at hl 1 rfl) ?_
                    refine lv_bipush (v := 7) hx hb d_Mo_init_364 (by decide) ?_
                    refine lv_iadd hx hb d_Mo_init_366 ?_
                    refine lv_bipush (v := 8) hx hb d_Mo_init_367 (by decide) ?_
                    refine lv_irem hx hb d_Mo_init_369 (by decide) ?_
                    refine lv_ishr hx hb d_Mo_init_370 ?_
                    refine lv_iconst (v := 1) hx hb d_Mo_init_371 (by decide) ?_
                    refine lv_iand hx hb d_Mo_init_372 ?_
                    refine lv_ixor hx hb d_Mo_init_373 ?_
                    refine lv_topi (fun x421 e_x421 => ?_)
                    refine lv_istore (lv' := [(5, .int x421), (4, .int y4), (3, .int y3), (2, .int y2), (1, .int y1), (0, .ref a)]) hx hb d_Mo_init_374 hl (by decide) rfl (fun ls hl => ?_)
                    have hbit : uN x421 < 2 := by rw [e_x421, e_x420]; exact bit_xor (bit_xor (bit_xor (bit_xor (bit_xor (bit_and _) (bit_and _)) (bit_and _)) (bit_and _)) (bit_and _)) (bit_and _)
                    refine lv_iload_n hx hb d_Mo_init_376 rfl (lv_at hl 2 rfl) ?_
                    refine lv_iload hx hb d_Mo_init_377 (lv_at hl 0 rfl) ?_
                    refine lv_iload hx hb d_Mo_init_379 (lv_at hl 1 rfl) ?_
                    refine lv_ishl hx hb d_Mo_init_381 ?_
                    refine lv_ior hx hb d_Mo_init_382 ?_
                    refine lv_topi (fun x422 e_x422 => ?_)
                    refine lv_istore_n (lv' := [(3, .int x422), (5, .int x421), (4, .int y4), (2, .int y2), (1, .int y1), (0, .ref a)]) hx hb d_Mo_init_383 rfl hl (by decide) rfl (fun ls hl => ?_)
                    obtain ⟨x423, e_x423⟩ : ∃ ww9 : Int32, ww9 = y4 + 1 := ⟨_, rfl⟩
                    refine lv_iinc (v := x423) (lv' := [(4, .int x423), (3, .int x422), (5, .int x421), (2, .int y2), (1, .int y1), (0, .ref a)]) hx hb d_Mo_init_384 hl (k := 2) rfl (by rw [e_x423]; rfl) (by decide) rfl (fun ls hl => ?_)
                    refine lv_goto (tgt := 299) hx hb d_Mo_init_387 (by decide) ?_
                    exact ih_299 (i + 1) x422 x423 _ _ _ hlti (nb_s e_x423 hki) (by rw [e_x422, hki]; exact bit_add hlti hv hbit) (z_m hm_299 hlti) hI (lv_sub hl [0, 1, 3, 4, 5] rfl)
              exact L_299 _ 0 0 0 _ _ _ (Nat.zero_le _) rfl (by decide) (Nat.lt_succ_self _) hI (lv_sub hl [0, 1, 2, 3, 4] rfl)
            · have hltj : j < 256 := nb_lt (n := 256) hkj c_270 (by decide) (z_31 hj)
              refine lv_iload_n hx hb d_Mo_init_273 rfl (lv_at hl 2 rfl) ?_
              refine lv_iload_n hx hb d_Mo_init_274 rfl (lv_at hl 0 rfl) ?_
              refine gw_Si (As := [.int y1, .int y3]) (rest := []) M hK hI (c_Mo_times l y1 y3) k_Mo_times m_Mo_90 rfl hl.1 rfl (Nat.le_of_ble_eq_true rfl) ⟨rfl, rfl, ⟨Nat.le_of_ble_eq_true rfl, Nat.le_of_ble_eq_true rfl⟩, ⟨Nat.le_of_ble_eq_true rfl, Nat.le_of_ble_eq_true rfl⟩⟩ d_Mo_init_275 (fun x424 G9 H locs hw hI => ?_)
              obtain ⟨h_x424, hw⟩ := hw
              rw [hw] at hI
              refine lv_iconst (v := 1) hx hb d_Mo_init_278 (by decide) ?_
              refine lv_icmp_ne (tgt := 286) hx hb d_Mo_init_279 (by decide) (fun c_279 => ?_) (fun c_279 => ?_)
              · refine lv_iload_n hx hb d_Mo_init_286 rfl (lv_at hl 1 rfl) ?_
                refine lv_istore_n (lv' := [(2, .int y2), (3, .int y3), (1, .int y1), (0, .ref a)]) hx hb d_Mo_init_287 rfl hl (by decide) rfl (fun ls hl => ?_)
                obtain ⟨x425, e_x425⟩ : ∃ ww9 : Int32, ww9 = y3 + 1 := ⟨_, rfl⟩
                refine lv_iinc (v := x425) (lv' := [(3, .int x425), (2, .int y2), (1, .int y1), (0, .ref a)]) hx hb d_Mo_init_288 hl (k := 1) rfl (by rw [e_x425]; rfl) (by decide) rfl (fun ls hl => ?_)
                refine lv_goto (tgt := 266) hx hb d_Mo_init_291 (by decide) ?_
                exact ih_266 (j + 1) y2 x425 _ _ _ hltj (nb_s e_x425 hkj) (z_m hm_266 hltj) hI (lv_sub hl [0, 1, 2, 3] rfl)
              · refine lv_iload_n hx hb d_Mo_init_282 rfl (lv_at hl 0 rfl) ?_
                refine lv_goto (tgt := 287) hx hb d_Mo_init_283 (by decide) ?_
                refine lv_istore_n (lv' := [(2, .int y3), (3, .int y3), (1, .int y1), (0, .ref a)]) hx hb d_Mo_init_287 rfl hl (by decide) rfl (fun ls hl => ?_)
                obtain ⟨x426, e_x426⟩ : ∃ ww9 : Int32, ww9 = y3 + 1 := ⟨_, rfl⟩
                refine lv_iinc (v := x426) (lv' := [(3, .int x426), (2, .int y3), (1, .int y1), (0, .ref a)]) hx hb d_Mo_init_288 hl (k := 1) rfl (by rw [e_x426]; rfl) (by decide) rfl (fun ls hl => ?_)
                refine lv_goto (tgt := 266) hx hb d_Mo_init_291 (by decide) ?_
                exact ih_266 (j + 1) y3 x426 _ _ _ hltj (nb_s e_x426 hkj) (z_m hm_266 hltj) hI (lv_sub hl [0, 1, 2, 3] rfl)
        exact L_266 _ 1 0 1 _ _ _ (by decide) rfl (Nat.lt_succ_self _) hI (lv_sub hl [0, 1, 2, 3] rfl)
  exact L_255 _ 0 0 _ _ _ (Nat.zero_le _) rfl (Nat.lt_succ_self _) hI (lv_sub hl [0, 1] rfl)
