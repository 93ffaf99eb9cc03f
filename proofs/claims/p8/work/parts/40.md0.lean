theorem by8_255 (x : Int32) : by8 (x &&& 255) := by
  show uN _ < 256
  rw [uN_and]
  exact Nat.lt_of_le_of_lt Nat.and_le_right (by decide)
theorem l255 (x : Int64) : by8 ((x &&& 255).toInt32) := by
  show uN _ < 256
  unfold uN
  have h1 : ((x &&& 255).toInt32).toBitVec = ((x &&& 255).toBitVec).signExtend 32 := rfl
  rw [h1, BitVec.toNat_signExtend]
  have h2 : (x &&& 255).toBitVec.toNat < 256 := by
    rw [Int64.toBitVec_and, BitVec.toNat_and]
    exact Nat.lt_of_le_of_lt Nat.and_le_right (by decide)
  rw [BitVec.toNat_setWidth]
  have h3 : (x &&& 255).toBitVec.msb = false := by
    rw [BitVec.msb_eq_decide]
    simp only [decide_eq_false_iff_not]
    omega
  rw [h3]
  simp only [Bool.false_eq_true, if_false, Nat.add_zero]
  exact Nat.lt_of_le_of_lt (Nat.mod_le _ _) h2
theorem by8_or {x y : Int32} (hx : by8 x) (hy : by8 y) : by8 (x ||| y) := by
  show uN _ < 2 ^ 8
  rw [uN_or]
  exact Nat.or_lt_two_pow hx hy
theorem by8_n {n : Nat} (h : n < 256) : by8 (nI n) := by
  show uN _ < 256
  rw [uN_nI (by omega)]; exact h
theorem sr_1 : ∀ n, n < 256 → uN (nI n >>> ((1 : Int32) &&& 31)) < 256 := by decide +kernel
theorem sl_7 : ∀ n, n < 2 → uN (nI n <<< ((7 : Int32) &&& 31)) < 256 := by decide +kernel
theorem by8_sr {x : Int32} (h : by8 x) : by8 (x >>> ((1 : Int32) &&& 31)) := by
  have h1 := sr_1 (uN x) h
  rw [← uN_eq] at h1
  exact h1
theorem by8_sl {x : Int32} (h : uN x < 2) : by8 (x <<< ((7 : Int32) &&& 31)) := by
  have h1 := sl_7 (uN x) h
  rw [← uN_eq] at h1
  exact h1
theorem by8_le {x : Int32} (h0 : ¬ x < 0) (h : x ≤ 255) : by8 x := by
  obtain ⟨k, hk, rfl⟩ := nI_of2 (M := 255) (n := 255) rfl h0 h
  exact by8_n (by omega)
theorem nb_ss {x y : Int32} {k j : Nat} (hx : x = nI k) (hy : y = nI j) (h : j ≤ k) : x - y = nI (k - j) := by rw [hx, hy]; exact pk_sub h
theorem nI_clp {k : Nat} (h : k < 2 ^ 31) : (nI k).toNatClampNeg = k := by
  show (nI k).toInt.toNat = k
  rw [nI_toInt h]; rfl
theorem nb_cl {x : Int32} {k : Nat} (hx : x = nI k) (h : k < 2 ^ 31 := by omega) : x.toNatClampNeg = k := by rw [hx]; exact nI_clp h
/-- at most B -/
def leN (B : Nat) : Int32 → Prop := fun x => ∃ k, k ≤ B ∧ x = nI k
/-- the size of what is kept -/
def okS : Int32 → Prop := fun x => x = -1 ∨ ∃ k, k ≤ 236 ∧ x = nI k
/-- the first that is in use with the name n; 16: none -/
def isFi (fu fn : Nat → Int32) (n : Int32) (s : Nat) : Prop := s ≤ 16 ∧ (∀ j, j < s → ¬ (¬ fu j = 0 ∧ fn j = n)) ∧ (s < 16 → ¬ fu s = 0 ∧ fn s = n)
theorem isFi.ex (fu fn : Nat → Int32) (n : Int32) : ∃ s, isFi fu fn n s := by
  have h : ∀ m, m ≤ 16 → (∃ s, isFi fu fn n s) ∨ ∀ j, j < m → ¬ (¬ fu j = 0 ∧ fn j = n) := by
    intro m
    induction m with
    | zero => intro _; exact Or.inr (fun j hj => absurd hj (Nat.not_lt_zero _))
    | succ m ih =>
      intro hm
      rcases ih (by omega) with h | h
      · exact Or.inl h
      · by_cases hc : ¬ fu m = 0 ∧ fn m = n
        · exact Or.inl ⟨m, by omega, h, fun _ => hc⟩
        · refine Or.inr (fun j hj => ?_)
          by_cases hj2 : j = m
          · rw [hj2]; exact hc
          · exact h j (by omega)
  rcases h 16 (Nat.le_refl _) with h | h
  · exact h
  · exact ⟨16, Nat.le_refl _, h, fun h => absurd h (by decide)⟩
/-- the arrays of the model -/
def mo_kind (D : gw_D) (B : Nat) (fu fn fx fi : Nat → Int32) (fl : Nat → Int64) (k : Nat) : va_E → Prop := match k with
  | 1 => kA D 0 256 by8
  | 2 => kx (.inl (D.2 2, 16, .inl fu))
  | 3 => kx (.inl (D.2 0, 16, .inl fn))
  | 4 => kA D 0 2816 by8
  | 5 => kA D 0 16 tT
  | 6 => kA D 0 16 tT
  | 7 => kx (.inl (D.2 2, 16, .inl fx))
  | 8 => kx (.inl (D.2 3, 16, .inr (.inl fl)))
  | 9 => kx (.inl (D.2 0, 16, .inl fi))
  | 10 => kL D 16 tU
  | 11 => kL D 16 tU
  | 12 => kA D 0 16 tT
  | 13 => kA D 0 16 tT
  | 14 => kL D 17600 tU
  | 15 => kA D 0 16 (leN B)
  | 16 => kA D 0 200 by8
  | 18 => kA D 0 240 by8
  | 20 => kA D 0 1920 by8
  | 21 => kA D 0 8 okS
  | 22 => kA D 0 240 tT
  | 24 => kA D 0 16 by8
  | 25 => kA D 0 16 by8
  | 26 => kA D 0 16 by8
  | 27 => kA D 0 16 tT
  | 28 => kA D 0 16 by8
  | 29 => kA D 0 16 by8
  | _ => fun _ => True
def mo_is (k : Nat) : Bool := !(k == 0 || k == 17 || k == 19 || k == 23) && decide (k < 30)
abbrev mo_ob (q : Nat → Nat) (t f l g : Int32) : va_E := .inr (6, [.int t, .ref (q 1), .ref (q 2), .ref (q 3), .ref (q 4), .ref (q 5), .ref (q 6), .ref (q 7), .ref (q 8), .ref (q 9), .ref (q 10), .ref (q 11), .ref (q 12), .ref (q 13), .ref (q 14), .ref (q 15), .ref (q 16), .int f, .ref (q 18), .int l, .ref (q 20), .ref (q 21), .ref (q 22), .int g, .ref (q 24), .ref (q 25), .ref (q 26), .ref (q 27), .ref (q 28), .ref (q 29)])
/-- the model -/
def mdl (D : gw_D) (G : gw_G) (o : Nat) (q : Nat → Nat) (B : Nat) (t : Int32) (f l g : Nat) (fu fn fx fi : Nat → Int32) (fl : Nat → Int64) : Prop :=
  G o = some (kx (mo_ob q t (nI f) (nI l) (nI g))) ∧ (∀ k, mo_is k = true → G (q k) = some (mo_kind D B fu fn fx fi fl k) ∧ q k ≠ o) ∧ (∀ j k, mo_is j = true → mo_is k = true → q j = q k → j = k) ∧ f ≤ 200 ∧ l ≤ 236 ∧ g ≤ 204
def mown (o : Nat) (q : Nat → Nat) : Nat → Prop := fun b => b = o ∨ ∃ k, mo_is k = true ∧ b = q k
theorem mown.k {o : Nat} {q : Nat → Nat} {k : Nat} (h : mo_is k = true) : mown o q (q k) := Or.inr ⟨k, h, rfl⟩

theorem mdl.O {D : gw_D} {G : gw_G} {o : Nat} {q : Nat → Nat} {B : Nat} {t : Int32} {f l g : Nat} {fu fn fx fi : Nat → Int32} {fl : Nat → Int64} (h : mdl D G o q B t f l g fu fn fx fi fl) : G o = some (kx (mo_ob q t (nI f) (nI l) (nI g))) := h.1
theorem mdl.k1 {D : gw_D} {G : gw_G} {o : Nat} {q : Nat → Nat} {B : Nat} {t : Int32} {f l g : Nat} {fu fn fx fi : Nat → Int32} {fl : Nat → Int64} (h : mdl D G o q B t f l g fu fn fx fi fl) : G (q 1) = some (kA D 0 256 by8) := (h.2.1 1 rfl).1
theorem mdl.k2 {D : gw_D} {G : gw_G} {o : Nat} {q : Nat → Nat} {B : Nat} {t : Int32} {f l g : Nat} {fu fn fx fi : Nat → Int32} {fl : Nat → Int64} (h : mdl D G o q B t f l g fu fn fx fi fl) : G (q 2) = some (kx (.inl (D.2 2, 16, .inl fu))) := (h.2.1 2 rfl).1
theorem mdl.k3 {D : gw_D} {G : gw_G} {o : Nat} {q : Nat → Nat} {B : Nat} {t : Int32} {f l g : Nat} {fu fn fx fi : Nat → Int32} {fl : Nat → Int64} (h : mdl D G o q B t f l g fu fn fx fi fl) : G (q 3) = some (kx (.inl (D.2 0, 16, .inl fn))) := (h.2.1 3 rfl).1
theorem mdl.k4 {D : gw_D} {G : gw_G} {o : Nat} {q : Nat → Nat} {B : Nat} {t : Int32} {f l g : Nat} {fu fn fx fi : Nat → Int32} {fl : Nat → Int64} (h : mdl D G o q B t f l g fu fn fx fi fl) : G (q 4) = some (kA D 0 2816 by8) := (h.2.1 4 rfl).1
theorem mdl.k5 {D : gw_D} {G : gw_G} {o : Nat} {q : Nat → Nat} {B : Nat} {t : Int32} {f l g : Nat} {fu fn fx fi : Nat → Int32} {fl : Nat → Int64} (h : mdl D G o q B t f l g fu fn fx fi fl) : G (q 5) = some (kA D 0 16 tT) := (h.2.1 5 rfl).1
theorem mdl.k6 {D : gw_D} {G : gw_G} {o : Nat} {q : Nat → Nat} {B : Nat} {t : Int32} {f l g : Nat} {fu fn fx fi : Nat → Int32} {fl : Nat → Int64} (h : mdl D G o q B t f l g fu fn fx fi fl) : G (q 6) = some (kA D 0 16 tT) := (h.2.1 6 rfl).1
theorem mdl.k7 {D : gw_D} {G : gw_G} {o : Nat} {q : Nat → Nat} {B : Nat} {t : Int32} {f l g : Nat} {fu fn fx fi : Nat → Int32} {fl : Nat → Int64} (h : mdl D G o q B t f l g fu fn fx fi fl) : G (q 7) = some (kx (.inl (D.2 2, 16, .inl fx))) := (h.2.1 7 rfl).1
theorem mdl.k8 {D : gw_D} {G : gw_G} {o : Nat} {q : Nat → Nat} {B : Nat} {t : Int32} {f l g : Nat} {fu fn fx fi : Nat → Int32} {fl : Nat → Int64} (h : mdl D G o q B t f l g fu fn fx fi fl) : G (q 8) = some (kx (.inl (D.2 3, 16, .inr (.inl fl)))) := (h.2.1 8 rfl).1
theorem mdl.k9 {D : gw_D} {G : gw_G} {o : Nat} {q : Nat → Nat} {B : Nat} {t : Int32} {f l g : Nat} {fu fn fx fi : Nat → Int32} {fl : Nat → Int64} (h : mdl D G o q B t f l g fu fn fx fi fl) : G (q 9) = some (kx (.inl (D.2 0, 16, .inl fi))) := (h.2.1 9 rfl).1
theorem mdl.k10 {D : gw_D} {G : gw_G} {o : Nat} {q : Nat → Nat} {B : Nat} {t : Int32} {f l g : Nat} {fu fn fx fi : Nat → Int32} {fl : Nat → Int64} (h : mdl D G o q B t f l g fu fn fx fi fl) : G (q 10) = some (kL D 16 tU) := (h.2.1 10 rfl).1
theorem mdl.k11 {D : gw_D} {G : gw_G} {o : Nat} {q : Nat → Nat} {B : Nat} {t : Int32} {f l g : Nat} {fu fn fx fi : Nat → Int32} {fl : Nat → Int64} (h : mdl D G o q B t f l g fu fn fx fi fl) : G (q 11) = some (kL D 16 tU) := (h.2.1 11 rfl).1
theorem mdl.k12 {D : gw_D} {G : gw_G} {o : Nat} {q : Nat → Nat} {B : Nat} {t : Int32} {f l g : Nat} {fu fn fx fi : Nat → Int32} {fl : Nat → Int64} (h : mdl D G o q B t f l g fu fn fx fi fl) : G (q 12) = some (kA D 0 16 tT) := (h.2.1 12 rfl).1
theorem mdl.k13 {D : gw_D} {G : gw_G} {o : Nat} {q : Nat → Nat} {B : Nat} {t : Int32} {f l g : Nat} {fu fn fx fi : Nat → Int32} {fl : Nat → Int64} (h : mdl D G o q B t f l g fu fn fx fi fl) : G (q 13) = some (kA D 0 16 tT) := (h.2.1 13 rfl).1
theorem mdl.k14 {D : gw_D} {G : gw_G} {o : Nat} {q : Nat → Nat} {B : Nat} {t : Int32} {f l g : Nat} {fu fn fx fi : Nat → Int32} {fl : Nat → Int64} (h : mdl D G o q B t f l g fu fn fx fi fl) : G (q 14) = some (kL D 17600 tU) := (h.2.1 14 rfl).1
theorem mdl.k15 {D : gw_D} {G : gw_G} {o : Nat} {q : Nat → Nat} {B : Nat} {t : Int32} {f l g : Nat} {fu fn fx fi : Nat → Int32} {fl : Nat → Int64} (h : mdl D G o q B t f l g fu fn fx fi fl) : G (q 15) = some (kA D 0 16 (leN B)) := (h.2.1 15 rfl).1
theorem mdl.k16 {D : gw_D} {G : gw_G} {o : Nat} {q : Nat → Nat} {B : Nat} {t : Int32} {f l g : Nat} {fu fn fx fi : Nat → Int32} {fl : Nat → Int64} (h : mdl D G o q B t f l g fu fn fx fi fl) : G (q 16) = some (kA D 0 200 by8) := (h.2.1 16 rfl).1
theorem mdl.k18 {D : gw_D} {G : gw_G} {o : Nat} {q : Nat → Nat} {B : Nat} {t : Int32} {f l g : Nat} {fu fn fx fi : Nat → Int32} {fl : Nat → Int64} (h : mdl D G o q B t f l g fu fn fx fi fl) : G (q 18) = some (kA D 0 240 by8) := (h.2.1 18 rfl).1
theorem mdl.k20 {D : gw_D} {G : gw_G} {o : Nat} {q : Nat → Nat} {B : Nat} {t : Int32} {f l g : Nat} {fu fn fx fi : Nat → Int32} {fl : Nat → Int64} (h : mdl D G o q B t f l g fu fn fx fi fl) : G (q 20) = some (kA D 0 1920 by8) := (h.2.1 20 rfl).1
theorem mdl.k21 {D : gw_D} {G : gw_G} {o : Nat} {q : Nat → Nat} {B : Nat} {t : Int32} {f l g : Nat} {fu fn fx fi : Nat → Int32} {fl : Nat → Int64} (h : mdl D G o q B t f l g fu fn fx fi fl) : G (q 21) = some (kA D 0 8 okS) := (h.2.1 21 rfl).1
theorem mdl.k22 {D : gw_D} {G : gw_G} {o : Nat} {q : Nat → Nat} {B : Nat} {t : Int32} {f l g : Nat} {fu fn fx fi : Nat → Int32} {fl : Nat → Int64} (h : mdl D G o q B t f l g fu fn fx fi fl) : G (q 22) = some (kA D 0 240 tT) := (h.2.1 22 rfl).1
theorem mdl.k24 {D : gw_D} {G : gw_G} {o : Nat} {q : Nat → Nat} {B : Nat} {t : Int32} {f l g : Nat} {fu fn fx fi : Nat → Int32} {fl : Nat → Int64} (h : mdl D G o q B t f l g fu fn fx fi fl) : G (q 24) = some (kA D 0 16 by8) := (h.2.1 24 rfl).1
theorem mdl.k25 {D : gw_D} {G : gw_G} {o : Nat} {q : Nat → Nat} {B : Nat} {t : Int32} {f l g : Nat} {fu fn fx fi : Nat → Int32} {fl : Nat → Int64} (h : mdl D G o q B t f l g fu fn fx fi fl) : G (q 25) = some (kA D 0 16 by8) := (h.2.1 25 rfl).1
theorem mdl.k26 {D : gw_D} {G : gw_G} {o : Nat} {q : Nat → Nat} {B : Nat} {t : Int32} {f l g : Nat} {fu fn fx fi : Nat → Int32} {fl : Nat → Int64} (h : mdl D G o q B t f l g fu fn fx fi fl) : G (q 26) = some (kA D 0 16 by8) := (h.2.1 26 rfl).1
theorem mdl.k27 {D : gw_D} {G : gw_G} {o : Nat} {q : Nat → Nat} {B : Nat} {t : Int32} {f l g : Nat} {fu fn fx fi : Nat → Int32} {fl : Nat → Int64} (h : mdl D G o q B t f l g fu fn fx fi fl) : G (q 27) = some (kA D 0 16 tT) := (h.2.1 27 rfl).1
theorem mdl.k28 {D : gw_D} {G : gw_G} {o : Nat} {q : Nat → Nat} {B : Nat} {t : Int32} {f l g : Nat} {fu fn fx fi : Nat → Int32} {fl : Nat → Int64} (h : mdl D G o q B t f l g fu fn fx fi fl) : G (q 28) = some (kA D 0 16 by8) := (h.2.1 28 rfl).1
theorem mdl.k29 {D : gw_D} {G : gw_G} {o : Nat} {q : Nat → Nat} {B : Nat} {t : Int32} {f l g : Nat} {fu fn fx fi : Nat → Int32} {fl : Nat → Int64} (h : mdl D G o q B t f l g fu fn fx fi fl) : G (q 29) = some (kA D 0 16 by8) := (h.2.1 29 rfl).1
theorem mdl.f200 {D : gw_D} {G : gw_G} {o : Nat} {q : Nat → Nat} {B : Nat} {t : Int32} {f l g : Nat} {fu fn fx fi : Nat → Int32} {fl : Nat → Int64} (h : mdl D G o q B t f l g fu fn fx fi fl) : f ≤ 200 := h.2.2.2.1
theorem mdl.l236 {D : gw_D} {G : gw_G} {o : Nat} {q : Nat → Nat} {B : Nat} {t : Int32} {f l g : Nat} {fu fn fx fi : Nat → Int32} {fl : Nat → Int64} (h : mdl D G o q B t f l g fu fn fx fi fl) : l ≤ 236 := h.2.2.2.2.1
theorem mdl.g204 {D : gw_D} {G : gw_G} {o : Nat} {q : Nat → Nat} {B : Nat} {t : Int32} {f l g : Nat} {fu fn fx fi : Nat → Int32} {fl : Nat → Int64} (h : mdl D G o q B t f l g fu fn fx fi fl) : g ≤ 204 := h.2.2.2.2.2
theorem mdl.ob {D : gw_D} {G : gw_G} {o : Nat} {q : Nat → Nat} {B : Nat} {t : Int32} {f l g : Nat} {fu fn fx fi : Nat → Int32} {fl : Nat → Int64} (h : mdl D G o q B t f l g fu fn fx fi fl) {t' : Int32} {f' l' g' : Nat} (hf : f' ≤ 200) (hl : l' ≤ 236) (hg : g' ≤ 204) : mdl D (gw_up G o (kx (mo_ob q t' (nI f') (nI l') (nI g')))) o q B t' f' l' g' fu fn fx fi fl :=
  ⟨gw_up_s, fun k hk => ⟨(gw_up_n (h.2.1 k hk).2).trans (h.2.1 k hk).1, (h.2.1 k hk).2⟩, h.2.2.1, hf, hl, hg⟩
theorem mdl.ar {D : gw_D} {G : gw_G} {o : Nat} {q : Nat → Nat} {B : Nat} {t : Int32} {f l g : Nat} {fu fn fx fi : Nat → Int32} {fl : Nat → Int64} (h : mdl D G o q B t f l g fu fn fx fi fl) {k0 : Nat} (hk0 : mo_is k0 = true) {K' : va_E → Prop} {B' : Nat} {fu' fn' fx' fi' : Nat → Int32} {fl' : Nat → Int64} (e0 : mo_kind D B' fu' fn' fx' fi' fl' k0 = K') (en : ∀ k, mo_is k = true → k ≠ k0 → mo_kind D B' fu' fn' fx' fi' fl' k = mo_kind D B fu fn fx fi fl k) : mdl D (gw_up G (q k0) K') o q B' t f l g fu' fn' fx' fi' fl' := by
  refine ⟨(gw_up_n (Ne.symm (h.2.1 k0 hk0).2)).trans h.1, fun k hk => ⟨?_, (h.2.1 k hk).2⟩, h.2.2.1, h.2.2.2.1, h.2.2.2.2.1, h.2.2.2.2.2⟩
  by_cases hkk : k = k0
  · subst hkk; rw [e0]; exact gw_up_s
  · rw [en k hk hkk, gw_up_n (fun e => hkk (h.2.2.1 k k0 hk hk0 e))]; exact (h.2.1 k hk).1

theorem mdl.ar2 {D : gw_D} {G : gw_G} {o : Nat} {q : Nat → Nat} {B : Nat} {t : Int32} {f l g : Nat} {fu fn fx fi : Nat → Int32} {fl : Nat → Int64} (h : mdl D G o q B t f l g fu fn fx fi fl) (fu' : Nat → Int32) : mdl D (gw_up G (q 2) (kx (.inl (D.2 2, 16, .inl fu')))) o q B t f l g fu' fn fx fi fl := by
  refine h.ar (k0 := 2) rfl rfl (fun j hj hn => ?_)
  have h30 : j < 30 := by simp [mo_is] at hj; exact hj.2
  match j, h30, hj, hn with
  | 0, _, h, hn => cases h
  | 1, _, h, hn => rfl
  | 2, _, h, hn => exact absurd rfl hn
  | 3, _, h, hn => rfl
  | 4, _, h, hn => rfl
  | 5, _, h, hn => rfl
  | 6, _, h, hn => rfl
  | 7, _, h, hn => rfl
  | 8, _, h, hn => rfl
  | 9, _, h, hn => rfl
  | 10, _, h, hn => rfl
  | 11, _, h, hn => rfl
  | 12, _, h, hn => rfl
  | 13, _, h, hn => rfl
  | 14, _, h, hn => rfl
  | 15, _, h, hn => rfl
  | 16, _, h, hn => rfl
  | 17, _, h, hn => cases h
  | 18, _, h, hn => rfl
  | 19, _, h, hn => cases h
  | 20, _, h, hn => rfl
  | 21, _, h, hn => rfl
  | 22, _, h, hn => rfl
  | 23, _, h, hn => cases h
  | 24, _, h, hn => rfl
  | 25, _, h, hn => rfl
  | 26, _, h, hn => rfl
  | 27, _, h, hn => rfl
  | 28, _, h, hn => rfl
  | 29, _, h, hn => rfl
  | j + 30, h30, _, _ => exact absurd h30 (Nat.not_lt.mpr (Nat.le_add_left _ _))

theorem mdl.ar3 {D : gw_D} {G : gw_G} {o : Nat} {q : Nat → Nat} {B : Nat} {t : Int32} {f l g : Nat} {fu fn fx fi : Nat → Int32} {fl : Nat → Int64} (h : mdl D G o q B t f l g fu fn fx fi fl) (fn' : Nat → Int32) : mdl D (gw_up G (q 3) (kx (.inl (D.2 0, 16, .inl fn')))) o q B t f l g fu fn' fx fi fl := by
  refine h.ar (k0 := 3) rfl rfl (fun j hj hn => ?_)
  have h30 : j < 30 := by simp [mo_is] at hj; exact hj.2
  match j, h30, hj, hn with
  | 0, _, h, hn => cases h
  | 1, _, h, hn => rfl
  | 2, _, h, hn => rfl
  | 3, _, h, hn => exact absurd rfl hn
  | 4, _, h, hn => rfl
  | 5, _, h, hn => rfl
  | 6, _, h, hn => rfl
  | 7, _, h, hn => rfl
  | 8, _, h, hn => rfl
  | 9, _, h, hn => rfl
  | 10, _, h, hn => rfl
  | 11, _, h, hn => rfl
  | 12, _, h, hn => rfl
  | 13, _, h, hn => rfl
  | 14, _, h, hn => rfl
  | 15, _, h, hn => rfl
  | 16, _, h, hn => rfl
  | 17, _, h, hn => cases h
  | 18, _, h, hn => rfl
  | 19, _, h, hn => cases h
  | 20, _, h, hn => rfl
  | 21, _, h, hn => rfl
  | 22, _, h, hn => rfl
  | 23, _, h, hn => cases h
  | 24, _, h, hn => rfl
  | 25, _, h, hn => rfl
  | 26, _, h, hn => rfl
  | 27, _, h, hn => rfl
  | 28, _, h, hn => rfl
  | 29, _, h, hn => rfl
  | j + 30, h30, _, _ => exact absurd h30 (Nat.not_lt.mpr (Nat.le_add_left _ _))

theorem mdl.ar7 {D : gw_D} {G : gw_G} {o : Nat} {q : Nat → Nat} {B : Nat} {t : Int32} {f l g : Nat} {fu fn fx fi : Nat → Int32} {fl : Nat → Int64} (h : mdl D G o q B t f l g fu fn fx fi fl) (fx' : Nat → Int32) : mdl D (gw_up G (q 7) (kx (.inl (D.2 2, 16, .inl fx')))) o q B t f l g fu fn fx' fi fl := by
  refine h.ar (k0 := 7) rfl rfl (fun j hj hn => ?_)
  have h30 : j < 30 := by simp [mo_is] at hj; exact hj.2
  match j, h30, hj, hn with
  | 0, _, h, hn => cases h
  | 1, _, h, hn => rfl
  | 2, _, h, hn => rfl
  | 3, _, h, hn => rfl
  | 4, _, h, hn => rfl
  | 5, _, h, hn => rfl
  | 6, _, h, hn => rfl
  | 7, _, h, hn => exact absurd rfl hn
  | 8, _, h, hn => rfl
  | 9, _, h, hn => rfl
  | 10, _, h, hn => rfl
  | 11, _, h, hn => rfl
  | 12, _, h, hn => rfl
  | 13, _, h, hn => rfl
  | 14, _, h, hn => rfl
  | 15, _, h, hn => rfl
  | 16, _, h, hn => rfl
  | 17, _, h, hn => cases h
  | 18, _, h, hn => rfl
  | 19, _, h, hn => cases h
  | 20, _, h, hn => rfl
  | 21, _, h, hn => rfl
  | 22, _, h, hn => rfl
  | 23, _, h, hn => cases h
  | 24, _, h, hn => rfl
  | 25, _, h, hn => rfl
  | 26, _, h, hn => rfl
  | 27, _, h, hn => rfl
  | 28, _, h, hn => rfl
  | 29, _, h, hn => rfl
  | j + 30, h30, _, _ => exact absurd h30 (Nat.not_lt.mpr (Nat.le_add_left _ _))

theorem mdl.ar9 {D : gw_D} {G : gw_G} {o : Nat} {q : Nat → Nat} {B : Nat} {t : Int32} {f l g : Nat} {fu fn fx fi : Nat → Int32} {fl : Nat → Int64} (h : mdl D G o q B t f l g fu fn fx fi fl) (fi' : Nat → Int32) : mdl D (gw_up G (q 9) (kx (.inl (D.2 0, 16, .inl fi')))) o q B t f l g fu fn fx fi' fl := by
  refine h.ar (k0 := 9) rfl rfl (fun j hj hn => ?_)
  have h30 : j < 30 := by simp [mo_is] at hj; exact hj.2
  match j, h30, hj, hn with
  | 0, _, h, hn => cases h
  | 1, _, h, hn => rfl
  | 2, _, h, hn => rfl
  | 3, _, h, hn => rfl
  | 4, _, h, hn => rfl
  | 5, _, h, hn => rfl
  | 6, _, h, hn => rfl
  | 7, _, h, hn => rfl
  | 8, _, h, hn => rfl
  | 9, _, h, hn => exact absurd rfl hn
  | 10, _, h, hn => rfl
  | 11, _, h, hn => rfl
  | 12, _, h, hn => rfl
  | 13, _, h, hn => rfl
  | 14, _, h, hn => rfl
  | 15, _, h, hn => rfl
  | 16, _, h, hn => rfl
  | 17, _, h, hn => cases h
  | 18, _, h, hn => rfl
  | 19, _, h, hn => cases h
  | 20, _, h, hn => rfl
  | 21, _, h, hn => rfl
  | 22, _, h, hn => rfl
  | 23, _, h, hn => cases h
  | 24, _, h, hn => rfl
  | 25, _, h, hn => rfl
  | 26, _, h, hn => rfl
  | 27, _, h, hn => rfl
  | 28, _, h, hn => rfl
  | 29, _, h, hn => rfl
  | j + 30, h30, _, _ => exact absurd h30 (Nat.not_lt.mpr (Nat.le_add_left _ _))

theorem mdl.ar8 {D : gw_D} {G : gw_G} {o : Nat} {q : Nat → Nat} {B : Nat} {t : Int32} {f l g : Nat} {fu fn fx fi : Nat → Int32} {fl : Nat → Int64} (h : mdl D G o q B t f l g fu fn fx fi fl) (fl' : Nat → Int64) : mdl D (gw_up G (q 8) (kx (.inl (D.2 3, 16, .inr (.inl fl'))))) o q B t f l g fu fn fx fi fl' := by
  refine h.ar (k0 := 8) rfl rfl (fun j hj hn => ?_)
  have h30 : j < 30 := by simp [mo_is] at hj; exact hj.2
  match j, h30, hj, hn with
  | 0, _, h, hn => cases h
  | 1, _, h, hn => rfl
  | 2, _, h, hn => rfl
  | 3, _, h, hn => rfl
  | 4, _, h, hn => rfl
  | 5, _, h, hn => rfl
  | 6, _, h, hn => rfl
  | 7, _, h, hn => rfl
  | 8, _, h, hn => exact absurd rfl hn
  | 9, _, h, hn => rfl
  | 10, _, h, hn => rfl
  | 11, _, h, hn => rfl
  | 12, _, h, hn => rfl
  | 13, _, h, hn => rfl
  | 14, _, h, hn => rfl
  | 15, _, h, hn => rfl
  | 16, _, h, hn => rfl
  | 17, _, h, hn => cases h
  | 18, _, h, hn => rfl
  | 19, _, h, hn => cases h
  | 20, _, h, hn => rfl
  | 21, _, h, hn => rfl
  | 22, _, h, hn => rfl
  | 23, _, h, hn => cases h
  | 24, _, h, hn => rfl
  | 25, _, h, hn => rfl
  | 26, _, h, hn => rfl
  | 27, _, h, hn => rfl
  | 28, _, h, hn => rfl
  | 29, _, h, hn => rfl
  | j + 30, h30, _, _ => exact absurd h30 (Nat.not_lt.mpr (Nat.le_add_left _ _))

theorem mdl.ar15 {D : gw_D} {G : gw_G} {o : Nat} {q : Nat → Nat} {B : Nat} {t : Int32} {f l g : Nat} {fu fn fx fi : Nat → Int32} {fl : Nat → Int64} (h : mdl D G o q B t f l g fu fn fx fi fl) (B' : Nat) : mdl D (gw_up G (q 15) (kA D 0 16 (leN B'))) o q B' t f l g fu fn fx fi fl := by
  refine h.ar (k0 := 15) rfl rfl (fun j hj hn => ?_)
  have h30 : j < 30 := by simp [mo_is] at hj; exact hj.2
  match j, h30, hj, hn with
  | 0, _, h, hn => cases h
  | 1, _, h, hn => rfl
  | 2, _, h, hn => rfl
  | 3, _, h, hn => rfl
  | 4, _, h, hn => rfl
  | 5, _, h, hn => rfl
  | 6, _, h, hn => rfl
  | 7, _, h, hn => rfl
  | 8, _, h, hn => rfl
  | 9, _, h, hn => rfl
  | 10, _, h, hn => rfl
  | 11, _, h, hn => rfl
  | 12, _, h, hn => rfl
  | 13, _, h, hn => rfl
  | 14, _, h, hn => rfl
  | 15, _, h, hn => exact absurd rfl hn
  | 16, _, h, hn => rfl
  | 17, _, h, hn => cases h
  | 18, _, h, hn => rfl
  | 19, _, h, hn => cases h
  | 20, _, h, hn => rfl
  | 21, _, h, hn => rfl
  | 22, _, h, hn => rfl
  | 23, _, h, hn => cases h
  | 24, _, h, hn => rfl
  | 25, _, h, hn => rfl
  | 26, _, h, hn => rfl
  | 27, _, h, hn => rfl
  | 28, _, h, hn => rfl
  | 29, _, h, hn => rfl
  | j + 30, h30, _, _ => exact absurd h30 (Nat.not_lt.mpr (Nat.le_add_left _ _))

/-- the class's work leaves the model -/
theorem mdl.fr {D : gw_D} {G : gw_G} {o : Nat} {q : Nat → Nat} {B : Nat} {t : Int32} {f l g : Nat} {fu fn fx fi : Nat → Int32} {fl : Nat → Int64} (h : mdl D G o q B t f l g fu fn fx fi fl) {G1 : gw_G} {X : Nat → Prop} (hf : gw_fr X G G1) (hx : ∀ b, mown o q b → ¬ X b) : mdl D G1 o q B t f l g fu fn fx fi fl :=
  ⟨hf _ _ h.1 (hx _ (Or.inl rfl)), fun k hk => ⟨hf _ _ (h.2.1 k hk).1 (hx _ (mown.k hk)), (h.2.1 k hk).2⟩, h.2.2.1, h.2.2.2.1, h.2.2.2.2.1, h.2.2.2.2.2⟩
