theorem isFi.none {fu fn : Nat → Int32} {n : Int32} {s : Nat} (h : isFi fu fn n s) (hs : ¬ s < 16) : ∀ j, j < 16 → ¬ (¬ fu j = 0 ∧ fn j = n) := fun j hj => h.2.1 j (by omega)
theorem ff_ex {fu : Nat → Int32} (h : ¬ ∀ j, j < 16 → ¬ fu j = 0) : ∃ s, s < 16 ∧ fu s = 0 ∧ ∀ j, j < s → ¬ fu j = 0 := by
  have h1 : ∀ m, m ≤ 16 → (∃ s, s < 16 ∧ fu s = 0 ∧ ∀ j, j < s → ¬ fu j = 0) ∨ ∀ j, j < m → ¬ fu j = 0 := by
    intro m
    induction m with
    | zero => intro _; exact Or.inr (fun j hj => absurd hj (Nat.not_lt_zero _))
    | succ m ih =>
      intro hm
      rcases ih (by omega) with h2 | h2
      · exact Or.inl h2
      · by_cases hc : fu m = 0
        · exact Or.inl ⟨m, by omega, hc, h2⟩
        · refine Or.inr (fun j hj => ?_)
          by_cases hj2 : j = m
          · rw [hj2]; exact hc
          · exact h2 j (by omega)
  rcases h1 16 (Nat.le_refl _) with h2 | h2
  · exact h2
  · exact absurd h2 h
theorem apO {A : Nat → Nat → Nat} {o : Nat} {q : Nat → Nat} (hap : ∀ k i, inA k i → ¬ mown o q (A k i)) : ∀ b, mown o q b → ¬ own A b := fun b hb ho => by
  rcases ho with e | e | e | ⟨i, hi, e⟩
  · exact hap 0 0 (iA0 (by decide)) (e ▸ hb)
  · exact hap 1 0 (iA0 (by decide)) (e ▸ hb)
  · exact hap 2 0 (iA0 (by decide)) (e ▸ hb)
  · exact hap 12 i (iA1 (by decide) (by decide) hi) (e ▸ hb)
theorem apU {A : Nat → Nat → Nat} {o ou : Nat} {q : Nat → Nat} (hap : ∀ k i, inA k i → ¬ mown o q (A k i)) (hmu : ¬ mown o q ou) : ∀ b, mown o q b → ¬ ownU A ou b := fun b hb ho => ho.elim (apO hap b hb) (fun e => hmu (e ▸ hb))

/-- the names in use, and what belongs to each, are the same on both sides -/
def tie (pm : Nat → Nat) (cnt fd : Nat) (tt xt li : Nat → Int32) (la : Nat → Int64) (_t0 : Int32) (f0 _l0 : Nat) (fu fn fx fi : Nat → Int32) (fl : Nat → Int64) : Prop :=
  fd = f0 ∧ (∀ i j, i < j → j < cnt → tt (pm i) < tt (pm j)) ∧ (∀ j, j < cnt → ∃ s, s < 16 ∧ ¬ fu s = 0 ∧ fn s = tt (pm j) ∧ fl s = la (pm j) ∧ fi s = li (pm j) ∧ fx s = xt (pm j)) ∧ (∀ s, s < 16 → ¬ fu s = 0 → ∃ j, j < cnt ∧ fn s = tt (pm j)) ∧ (∀ s s', s < 16 → s' < 16 → ¬ fu s = 0 → ¬ fu s' = 0 → fn s = fn s' → s = s') ∧ ∀ j, j < cnt → ¬ gre (xt (pm j)) < la (pm j)
theorem i_lt_trans {a b c : Int32} (h1 : a < b) (h2 : b < c) : a < c := by
  rw [Int32.lt_iff_toInt_lt] at *; omega
theorem i_lt_irr {a : Int32} (h : a < a) : False := by rw [Int32.lt_iff_toInt_lt] at h; omega
theorem i_lt_of {a b : Int32} (h1 : ¬ b < a) (h2 : ¬ b = a) : a < b := by
  rw [Int32.lt_iff_toInt_lt] at *
  have h3 : ¬ b.toInt = a.toInt := fun q => h2 (Int32.toInt_inj.mp q)
  omega
theorem updI_s {f : Nat → Int32} {k : Nat} {v : Int32} : upd f k v k = v := if_pos rfl
theorem updI_n {f : Nat → Int32} {k j : Nat} {v : Int32} (h : j ≠ k) : upd f k v j = f j := if_neg h
theorem updI_id {f : Nat → Int32} {k : Nat} : upd f k (f k) = f := by
  funext j; by_cases h : j = k
  · subst h; exact updI_s
  · exact updI_n h
theorem updJ_s {f : Nat → Int64} {k : Nat} {v : Int64} : vp_updL f k v k = v := if_pos rfl
theorem updJ_n {f : Nat → Int64} {k j : Nat} {v : Int64} (h : j ≠ k) : vp_updL f k v j = f j := if_neg h
theorem updJ_id {f : Nat → Int64} {k : Nat} : vp_updL f k (f k) = f := by
  funext j; by_cases h : j = k
  · subst h; exact updJ_s
  · exact updJ_n h
/-- into fewer places no one-to-one way -/
theorem pig : ∀ (n m : Nat) (f : Nat → Nat), (∀ i, i < n → f i < m) → (∀ i j, i < n → j < n → f i = f j → i = j) → n ≤ m := by
  intro n
  induction n with
  | zero => intro m f _ _; exact Nat.zero_le _
  | succ n ih =>
    intro m f h1 h2
    have h0 := h1 n (Nat.lt_succ_self _)
    have h3 : n ≤ m - 1 := by
      refine ih (m - 1) (fun i => if f i = m - 1 then f n else f i) (fun i hi => ?_) (fun i j hi hj e => ?_)
      · show (if f i = m - 1 then f n else f i) < m - 1
        have h4 := h1 i (by omega)
        by_cases hc : f i = m - 1
        · rw [if_pos hc]
          have h5 : ¬ f n = m - 1 := fun q => absurd (h2 i n (by omega) (Nat.lt_succ_self _) (hc.trans q.symm)) (by omega)
          omega
        · rw [if_neg hc]; omega
      · have e' : (if f i = m - 1 then f n else f i) = (if f j = m - 1 then f n else f j) := e
        by_cases ci : f i = m - 1 <;> by_cases cj : f j = m - 1
        · exact h2 i j (by omega) (by omega) (ci.trans cj.symm)
        · rw [if_pos ci, if_neg cj] at e'
          exact absurd (h2 n j (Nat.lt_succ_self _) (by omega) e') (by omega)
        · rw [if_neg ci, if_pos cj] at e'
          exact absurd (h2 i n (by omega) (Nat.lt_succ_self _) e') (by omega)
        · rw [if_neg ci, if_neg cj] at e'
          exact h2 i j (by omega) (by omega) e'
    omega
section TIE
variable {pm : Nat → Nat} {cnt fd : Nat} {tt xt li : Nat → Int32} {la : Nat → Int64} {t0 : Int32} {f0 l0 : Nat} {fu fn fx fi : Nat → Int32} {fl : Nat → Int64}
theorem tie.srt (h : tie pm cnt fd tt xt li la t0 f0 l0 fu fn fx fi fl) {i j : Nat} (hi : i < cnt) (hj : j < cnt) (e : tt (pm i) = tt (pm j)) : i = j := by
  rcases Nat.lt_trichotomy i j with q | q | q
  · have h1 := h.2.1 i j q hj; rw [e] at h1; exact (i_lt_irr h1).elim
  · exact q
  · have h1 := h.2.1 j i q hi; rw [e] at h1; exact (i_lt_irr h1).elim
/-- known on one side: known on the other -/
theorem tie.kn (h : tie pm cnt fd tt xt li la t0 f0 l0 fu fn fx fi fl) {n : Int32} {kp s1 : Nat} (hk : isPl (fun j => tt (pm j)) cnt n kp) (hs : isFi fu fn n s1) : (kp < cnt ∧ tt (pm kp) = n) ↔ s1 < 16 := by
  constructor
  · intro ⟨h1, h2⟩
    obtain ⟨s, a1, a2, a3, -⟩ := h.2.2.1 kp h1
    rcases Nat.lt_or_ge s1 16 with q | q
    · exact q
    · exact absurd ⟨a2, a3.trans h2⟩ (hs.2.1 s (by omega))
  · intro h1
    obtain ⟨a1, a2⟩ := hs.2.2 h1
    obtain ⟨j, hj, b1⟩ := h.2.2.2.1 s1 h1 a1
    have e1 : tt (pm j) = n := b1.symm.trans a2
    have hle : kp ≤ j := by
      rcases Nat.lt_or_ge j kp with q | q
      · have h2 : tt (pm j) < n := hk.2.1 j q
        rw [e1] at h2; exact (i_lt_irr h2).elim
      · exact q
    have hkc : kp < cnt := by omega
    have h3 : ¬ tt (pm kp) < n := hk.2.2 hkc
    have hkj : kp = j := by
      rcases Nat.lt_or_ge kp j with q | q
      · have h4 := h.2.1 kp j q hj; rw [e1] at h4; exact absurd h4 h3
      · omega
    rw [hkj]; exact ⟨hj, e1⟩
/-- what belongs to the name -/
theorem tie.at (h : tie pm cnt fd tt xt li la t0 f0 l0 fu fn fx fi fl) {n : Int32} {kp s1 : Nat} (hat : kp < cnt ∧ tt (pm kp) = n) (hs : isFi fu fn n s1) (h1 : s1 < 16) : fl s1 = la (pm kp) ∧ fi s1 = li (pm kp) ∧ fx s1 = xt (pm kp) := by
  obtain ⟨s, a1, a2, a3, a4⟩ := h.2.2.1 kp hat.1
  obtain ⟨b1, b2⟩ := hs.2.2 h1
  have e : s = s1 := h.2.2.2.2.1 s s1 a1 h1 a2 b1 (a3.trans (hat.2.trans b2.symm))
  rw [← e]; exact a4
theorem tie.t (h : tie pm cnt fd tt xt li la t0 f0 l0 fu fn fx fi fl) {t1 : Int32} {l1 : Nat} : tie pm cnt fd tt xt li la t1 f0 l1 fu fn fx fi fl := h
theorem tie.fdw (h : tie pm cnt fd tt xt li la t0 f0 l0 fu fn fx fi fl) {fd1 f1 : Nat} (e : fd1 = f1) : tie pm cnt fd1 tt xt li la t0 f1 l0 fu fn fx fi fl := ⟨e, h.2⟩
/-- last and life of a name are written on both sides -/
theorem tie.put (h : tie pm cnt fd tt xt li la t0 f0 l0 fu fn fx fi fl) (hp : cls_pm pm cnt fd xt) {n : Int32} {kp s1 : Nat} (hat : kp < cnt ∧ tt (pm kp) = n) (hs : isFi fu fn n s1) (h1 : s1 < 16) {v : Int64} {w : Int32} (hv : ¬ gre (xt (pm kp)) < v) : tie pm cnt fd tt xt (fup li (pm kp) w) (fup la (pm kp) v) t0 f0 l0 fu fn fx (upd fi s1 w) (vp_updL fl s1 v) := by
  have hne : ∀ j, j < cnt → ¬ j = kp → pm j ≠ pm kp := fun j hj q e => q (hp.2.2.2.1 j kp (by have := hp.1; omega) (by have := hp.1; omega) e)
  obtain ⟨b1, b2⟩ := hs.2.2 h1
  refine ⟨h.1, h.2.1, fun j hj => ?_, h.2.2.2.1, h.2.2.2.2.1, fun j hj => ?_⟩
  · obtain ⟨s, a1, a2, a3, a4, a5, a6⟩ := h.2.2.1 j hj
    refine ⟨s, a1, a2, a3, ?_⟩
    by_cases hjk : j = kp
    · subst hjk
      have e : s = s1 := h.2.2.2.2.1 s s1 a1 h1 a2 b1 (a3.trans (hat.2.trans b2.symm))
      subst e
      rw [fup_s, fup_s, updI_s, updJ_s]; exact ⟨rfl, rfl, a6⟩
    · have hns : s ≠ s1 := fun e => hjk (h.srt hj hat.1 (by rw [← a3, e, b2, hat.2]))
      rw [fup_n (hne j hj hjk), fup_n (hne j hj hjk), updI_n hns, updJ_n hns]; exact ⟨a4, a5, a6⟩
  · by_cases hjk : j = kp
    · subst hjk; rw [fup_s]; exact hv
    · rw [fup_n (hne j hj hjk)]; exact h.2.2.2.2.2 j hj
theorem tie.drop (h : tie pm cnt fd tt xt li la t0 f0 l0 fu fn fx fi fl) {n : Int32} {kp s1 : Nat} (hat : kp < cnt ∧ tt (pm kp) = n) (hs : isFi fu fn n s1) (h1 : s1 < 16) : tie (fun j => pm (sf kp cnt j)) (cnt - 1) fd tt xt li la t0 f0 l0 (upd fu s1 0) fn fx fi fl := by
  obtain ⟨b1, b2⟩ := hs.2.2 h1
  have hsf : ∀ j, j < cnt - 1 → sf kp cnt j = (if j < kp then j else j + 1) := fun j hj => by
    unfold sf
    by_cases c1 : j < kp
    · rw [if_pos c1, if_pos c1]
    · rw [if_neg c1, if_neg c1, if_pos hj]
  have hb : ∀ j, j < cnt - 1 → sf kp cnt j < cnt ∧ ¬ sf kp cnt j = kp := fun j hj => by
    rw [hsf j hj]; split <;> omega
  have hold : ∀ {s : Nat}, ¬ upd fu s1 0 s = 0 → ¬ fu s = 0 ∧ s ≠ s1 := fun {s} q => by
    by_cases e : s = s1
    · rw [e, updI_s] at q; exact absurd rfl q
    · rw [updI_n e] at q; exact ⟨q, e⟩
  refine ⟨h.1, fun i j hij hj => ?_, fun j hj => ?_, fun s hs16 hu => ?_, fun s s' a1 a2 a3 a4 e => h.2.2.2.2.1 s s' a1 a2 (hold a3).1 (hold a4).1 e, fun j hj => h.2.2.2.2.2 _ (hb j hj).1⟩
  · refine h.2.1 _ _ ?_ (hb j hj).1
    rw [hsf j hj, hsf i (by omega)]; split <;> split <;> omega
  · obtain ⟨s, a1, a2, a3, a4⟩ := h.2.2.1 _ (hb j hj).1
    have hns : s ≠ s1 := fun e => (hb j hj).2 (h.srt (hb j hj).1 hat.1 (by rw [← a3, e, b2, hat.2]))
    exact ⟨s, a1, by rw [updI_n hns]; exact a2, a3, a4⟩
  · obtain ⟨u1, u2⟩ := hold hu
    obtain ⟨j, hj, e⟩ := h.2.2.2.1 s hs16 u1
    have hjk : ¬ j = kp := fun q => u2 (h.2.2.2.2.1 s s1 hs16 h1 u1 b1 (by rw [e, q, b2, hat.2]))
    rcases Nat.lt_or_ge j kp with q | q
    · exact ⟨j, by omega, by show fn s = tt (pm (sf kp cnt j)); rw [hsf j (by omega), if_pos q]; exact e⟩
    · exact ⟨j - 1, by omega, by show fn s = tt (pm (sf kp cnt (j - 1))); rw [hsf (j - 1) (by omega), if_neg (by omega), show j - 1 + 1 = j from by omega]; exact e⟩
theorem tie.add (h : tie pm cnt fd tt xt li la t0 f0 l0 fu fn fx fi fl) (hp : cls_pm pm cnt fd xt) {n x : Int32} {kp q1 : Nat} (hk : isPl (fun j => tt (pm j)) cnt n kp) (hc : cnt < 16) (hna : ¬ (kp < cnt ∧ tt (pm kp) = n)) (hn : ∀ j, j < 16 → ¬ (¬ fu j = 0 ∧ fn j = n)) (hq : q1 < 16) (hz : fu q1 = 0) : tie (fun j => pm (si kp cnt j)) (cnt + 1) fd (fup tt (pm cnt) n) (fup xt (pm cnt) x) (fup li (pm cnt) 1000000000) (fup la (pm cnt) 0) t0 f0 l0 (upd fu q1 1) (upd fn q1 n) (upd fx q1 x) (upd fi q1 1000000000) (vp_updL fl q1 0) := by
  have hne : ∀ j, j < cnt → pm j ≠ pm cnt := fun j hj e => absurd (hp.2.2.2.1 j cnt (by omega) hc e) (by omega)
  have hsi : ∀ j, j < cnt + 1 → ¬ j = kp → si kp cnt j = (if j < kp then j else j - 1) ∧ si kp cnt j < cnt := fun j hj q => by
    have hk1 := hk.1
    unfold si
    by_cases c1 : j < kp
    · rw [if_pos c1, if_pos c1]; exact ⟨rfl, by omega⟩
    · rw [if_neg c1, if_neg c1, if_neg q, if_pos (by omega)]; exact ⟨rfl, by omega⟩
  have hsk : si kp cnt kp = cnt := by unfold si; rw [if_neg (by omega), if_pos rfl]
  have hnq : ∀ {s : Nat}, ¬ fu s = 0 → s ≠ q1 := fun q e => q (by rw [e]; exact hz)
  have hgt : kp < cnt → n < tt (pm kp) := fun q => i_lt_of (hk.2.2 q) (fun e => hna ⟨q, e⟩)
  refine ⟨h.1, fun i j hij hj => ?_, fun j hj => ?_, fun s hs16 hu => ?_, fun s s' a1 a2 a3 a4 e => ?_, fun j hj => ?_⟩
  · show fup tt (pm cnt) n (pm (si kp cnt i)) < fup tt (pm cnt) n (pm (si kp cnt j))
    by_cases ci : i = kp
    · have cj : ¬ j = kp := by omega
      rw [ci, hsk, fup_s, fup_n (hne _ (hsi j hj cj).2), (hsi j hj cj).1, if_neg (by omega)]
      have h5 := hgt (by omega)
      rcases Nat.lt_or_ge kp (j - 1) with q | q
      · exact i_lt_trans h5 (h.2.1 kp (j - 1) q (by omega))
      · rw [show j - 1 = kp from by omega]; exact h5
    · by_cases cj : j = kp
      · rw [cj, hsk, fup_s, fup_n (hne _ (hsi i (by omega) ci).2), (hsi i (by omega) ci).1, if_pos (by omega)]
        exact hk.2.1 i (by omega)
      · rw [fup_n (hne _ (hsi i (by omega) ci).2), fup_n (hne _ (hsi j hj cj).2)]
        refine h.2.1 _ _ ?_ (hsi j hj cj).2
        rw [(hsi i (by omega) ci).1, (hsi j hj cj).1]; split <;> split <;> omega
  · show ∃ s, s < 16 ∧ ¬ upd fu q1 1 s = 0 ∧ upd fn q1 n s = fup tt (pm cnt) n (pm (si kp cnt j)) ∧ vp_updL fl q1 0 s = fup la (pm cnt) 0 (pm (si kp cnt j)) ∧ upd fi q1 1000000000 s = fup li (pm cnt) 1000000000 (pm (si kp cnt j)) ∧ upd fx q1 x s = fup xt (pm cnt) x (pm (si kp cnt j))
    by_cases cj : j = kp
    · rw [cj, hsk, fup_s, fup_s, fup_s, fup_s]
      exact ⟨q1, hq, by rw [updI_s]; decide, updI_s, updJ_s, updI_s, updI_s⟩
    · have h5 := hne _ (hsi j hj cj).2
      rw [fup_n h5, fup_n h5, fup_n h5, fup_n h5]
      obtain ⟨s, a1, a2, a3, a4, a5, a6⟩ := h.2.2.1 _ (hsi j hj cj).2
      have hns := hnq a2
      exact ⟨s, a1, by rw [updI_n hns]; exact a2, by rw [updI_n hns]; exact a3, by rw [updJ_n hns]; exact a4, by rw [updI_n hns]; exact a5, by rw [updI_n hns]; exact a6⟩
  · show ∃ j, j < cnt + 1 ∧ upd fn q1 n s = fup tt (pm cnt) n (pm (si kp cnt j))
    by_cases cs : s = q1
    · exact ⟨kp, by have := hk.1; omega, by rw [cs, updI_s, hsk, fup_s]⟩
    · rw [updI_n cs] at hu
      obtain ⟨j, hj, e⟩ := h.2.2.2.1 s hs16 hu
      rcases Nat.lt_or_ge j kp with q | q
      · have h6 := hsi j (by omega) (by omega)
        rw [if_pos q] at h6
        exact ⟨j, by omega, by rw [updI_n cs, h6.1, fup_n (hne j hj)]; exact e⟩
      · have h6 := hsi (j + 1) (by omega) (by omega)
        rw [if_neg (by omega), show j + 1 - 1 = j from rfl] at h6
        exact ⟨j + 1, by omega, by rw [updI_n cs, h6.1, fup_n (hne j hj)]; exact e⟩
  · by_cases c1 : s = q1 <;> by_cases c2 : s' = q1
    · rw [c1, c2]
    · rw [updI_n c2] at a4
      rw [c1, updI_s, updI_n c2] at e
      exact absurd ⟨a4, e.symm⟩ (hn s' a2)
    · rw [updI_n c1] at a3
      rw [c2, updI_s, updI_n c1] at e
      exact absurd ⟨a3, e⟩ (hn s a1)
    · rw [updI_n c1] at a3 e
      rw [updI_n c2] at a4 e
      exact h.2.2.2.2.1 s s' a1 a2 a3 a4 e
  · show ¬ gre (fup xt (pm cnt) x (pm (si kp cnt j))) < fup la (pm cnt) 0 (pm (si kp cnt j))
    by_cases cj : j = kp
    · rw [cj, hsk, fup_s, fup_s]
      unfold gre; split <;> decide
    · have h5 := hne _ (hsi j hj cj).2
      rw [fup_n h5, fup_n h5]; exact h.2.2.2.2.2 _ (hsi j hj cj).2
/-- full on one side: full on the other -/
theorem tie.all (h : tie pm cnt fd tt xt li la t0 f0 l0 fu fn fx fi fl) (ha : ∀ j, j < 16 → ¬ fu j = 0) : 16 ≤ cnt := by
  have h1 : ∀ s, ∃ j, s < 16 → j < cnt ∧ fn s = tt (pm j) := fun s => by
    by_cases hs : s < 16
    · obtain ⟨j, hj, e⟩ := h.2.2.2.1 s hs (ha s hs)
      exact ⟨j, fun _ => ⟨hj, e⟩⟩
    · exact ⟨0, fun q => absurd q hs⟩
  obtain ⟨f, hf⟩ := Classical.axiomOfChoice h1
  exact pig 16 cnt f (fun i hi => (hf i hi).1) (fun i j hi hj e => h.2.2.2.2.1 i j hi hj (ha i hi) (ha j hj) (by rw [(hf i hi).2, (hf j hj).2, e]))
theorem tie.free (h : tie pm cnt fd tt xt li la t0 f0 l0 fu fn fx fi fl) {q1 : Nat} (hq : q1 < 16) (hz : fu q1 = 0) : cnt < 16 := by
  have h1 : ∀ j, ∃ s, j < cnt → s < 16 ∧ ¬ fu s = 0 ∧ fn s = tt (pm j) := fun j => by
    by_cases hj : j < cnt
    · obtain ⟨s, a1, a2, a3, -⟩ := h.2.2.1 j hj
      exact ⟨s, fun _ => ⟨a1, a2, a3⟩⟩
    · exact ⟨0, fun q => absurd q hj⟩
  obtain ⟨f, hf⟩ := Classical.axiomOfChoice h1
  have hn : ∀ j, j < cnt → f j ≠ q1 := fun j hj e => (hf j hj).2.1 (by rw [e]; exact hz)
  have h2 : cnt ≤ 15 := by
    refine pig cnt 15 (fun j => if f j < q1 then f j else f j - 1) (fun j hj => ?_) (fun i j hi hj e => ?_)
    · show (if f j < q1 then f j else f j - 1) < 15
      have h3 := (hf j hj).1
      have h4 := hn j hj
      split <;> omega
    · have e' : (if f i < q1 then f i else f i - 1) = (if f j < q1 then f j else f j - 1) := e
      have h4 := hn i hi
      have h5 := hn j hj
      have e2 : f i = f j := by split at e' <;> split at e' <;> omega
      exact h.srt hi hj (by rw [← (hf i hi).2.2, ← (hf j hj).2.2, e2])
  omega
end TIE
theorem tie.start : tie (fun j => j) 0 0 (fun _ => 0) (fun _ => 0) (fun _ => 0) (fun _ => 0) 0 0 0 (fun _ => 0) (fun _ => 0) (fun _ => 0) (fun _ => 0) (fun _ => 0) :=
  ⟨rfl, fun i j _ h => absurd h (Nat.not_lt_zero _), fun j h => absurd h (Nat.not_lt_zero _), fun s _ h => absurd rfl h, fun s s' _ _ h => absurd rfl h, fun j h => absurd h (Nat.not_lt_zero _)⟩
theorem t_feed {x : Int32} {fd f0 fd1 nm : Nat} (hT : fd = f0) (hnm : x = nI nm) (h8 : nm ≤ 8) {Q1 : Prop} {Q2 : Nat → Prop} (h : ∃ n : Nat, 1 ≤ n ∧ n ≤ 8 ∧ x = nI n ∧ ((200 < fd + n ∧ fd1 = fd ∧ Q1) ∨ (fd + n ≤ 200 ∧ fd1 = fd + n ∧ Q2 n))) : (200 < f0 + nm → fd1 = f0 ∧ Q1) ∧ (f0 + nm ≤ 200 → fd1 = f0 + nm ∧ Q2 nm) := by
  obtain ⟨n, h1, h2, h3, h4⟩ := h
  have e : n = nm := pk_nin (by omega) (by omega) (h3.symm.trans hnm)
  subst e
  subst hT
  rcases h4 with h | h
  · exact ⟨fun _ => h.2, fun q => absurd q (by omega)⟩
  · exact ⟨fun q => absurd q (by omega), fun _ => h.2⟩
section TIE2
variable {pm pm1 : Nat → Nat} {cnt cnt1 fd fd1 : Nat} {tt tt1 xt xt1 li li1 : Nat → Int32} {la la1 : Nat → Int64} {t0 : Int32} {f0 l0 : Nat} {fu fn fx fi : Nat → Int32} {fl : Nat → Int64} {n1 n2 n7 n8 r : Int32} {v2 : Int64} {s1 : Nat} {P1 : Int64 → Prop}
theorem tn_hur (hT : tie pm cnt fd tt xt li la t0 f0 l0 fu fn fx fi fl) (hp : cls_pm pm cnt fd xt) (hfi : isFi fu fn n1 s1)
    (hev : ∃ kp, isPl (fun j => tt (pm j)) cnt n1 kp ∧ pm1 = pm ∧ cnt1 = cnt ∧ fd1 = fd ∧ tt1 = tt ∧ xt1 = xt ∧ li1 = li ∧ ((¬ (kp < cnt ∧ tt (pm kp) = n1) ∧ r = 1 ∧ la1 = la) ∨ ((kp < cnt ∧ tt (pm kp) = n1) ∧ (v2 < la (pm kp) ∨ gre (xt (pm kp)) < v2) ∧ r = 2 ∧ la1 = la) ∨ ((kp < cnt ∧ tt (pm kp) = n1) ∧ ¬ (v2 < la (pm kp) ∨ gre (xt (pm kp)) < v2) ∧ r = 0 ∧ la1 = fup la (pm kp) v2))) :
    (¬ s1 < 16 → r = 1 ∧ tie pm1 cnt1 fd1 tt1 xt1 li1 la1 t0 f0 l0 fu fn fx fi fl) ∧ (s1 < 16 → ((v2 < fl s1 ∨ gre (fx s1) < v2) → r = 2 ∧ tie pm1 cnt1 fd1 tt1 xt1 li1 la1 t0 f0 l0 fu fn fx fi fl) ∧ (¬ (v2 < fl s1 ∨ gre (fx s1) < v2) → r = 0 ∧ tie pm1 cnt1 fd1 tt1 xt1 li1 la1 t0 f0 l0 fu fn fx fi (vp_updL fl s1 v2))) := by
  obtain ⟨kp, hkp, e1, e2, e3, e4, e5, e6, hev⟩ := hev
  rw [e1, e2, e3, e4, e5, e6]
  have hk := hT.kn hkp hfi
  refine ⟨fun hs => ?_, fun hs => ⟨fun hb => ?_, fun hb => ?_⟩⟩
  · rcases hev with ⟨_, e, e7⟩ | ⟨q, _⟩ | ⟨q, _⟩
    · rw [e7]; exact ⟨e, hT⟩
    · exact absurd (hk.mp q) hs
    · exact absurd (hk.mp q) hs
  · have hat := hk.mpr hs
    obtain ⟨x1, x2, x3⟩ := hT.at hat hfi hs
    rw [x1, x3] at hb
    rcases hev with ⟨q, _⟩ | ⟨_, _, e, e7⟩ | ⟨_, q, _⟩
    · exact absurd hat q
    · rw [e7]; exact ⟨e, hT⟩
    · exact absurd hb q
  · have hat := hk.mpr hs
    obtain ⟨x1, x2, x3⟩ := hT.at hat hfi hs
    rw [x1, x3] at hb
    rcases hev with ⟨q, _⟩ | ⟨_, q, _⟩ | ⟨_, _, e, e7⟩
    · exact absurd hat q
    · exact absurd q hb
    · have h9 := hT.put hp hat hfi hs (v := v2) (w := fi s1) (fun q => hb (Or.inr q))
      rw [updI_id, x2, fup_id] at h9
      rw [e7]; exact ⟨e, h9⟩
theorem tn_life (hT : tie pm cnt fd tt xt li la t0 f0 l0 fu fn fx fi fl) (hp : cls_pm pm cnt fd xt) (hfi : isFi fu fn n1 s1)
    (hev : ∃ kp, isPl (fun j => tt (pm j)) cnt n1 kp ∧ pm1 = pm ∧ cnt1 = cnt ∧ fd1 = fd ∧ tt1 = tt ∧ xt1 = xt ∧ la1 = la ∧ ((¬ (kp < cnt ∧ tt (pm kp) = n1) ∧ r = 1 ∧ li1 = li) ∨ ((kp < cnt ∧ tt (pm kp) = n1) ∧ n2 < 0 ∧ r = 2 ∧ li1 = li) ∨ ((kp < cnt ∧ tt (pm kp) = n1) ∧ ¬ n2 < 0 ∧ r = 0 ∧ li1 = fup li (pm kp) n2 ∧ ∀ z, P1 z → z = (li (pm kp)).toInt64))) :
    (¬ s1 < 16 → r = 1 ∧ tie pm1 cnt1 fd1 tt1 xt1 li1 la1 t0 f0 l0 fu fn fx fi fl) ∧ (s1 < 16 → (n2 < 0 → r = 2 ∧ tie pm1 cnt1 fd1 tt1 xt1 li1 la1 t0 f0 l0 fu fn fx fi fl) ∧ (¬ n2 < 0 → (r = 0 ∧ ∀ z, P1 z → z = (fi s1).toInt64) ∧ tie pm1 cnt1 fd1 tt1 xt1 li1 la1 t0 f0 l0 fu fn fx (upd fi s1 n2) fl)) := by
  obtain ⟨kp, hkp, e1, e2, e3, e4, e5, e6, hev⟩ := hev
  rw [e1, e2, e3, e4, e5, e6]
  have hk := hT.kn hkp hfi
  refine ⟨fun hs => ?_, fun hs => ⟨fun hb => ?_, fun hb => ?_⟩⟩
  · rcases hev with ⟨_, e, e7⟩ | ⟨q, _⟩ | ⟨q, _⟩
    · rw [e7]; exact ⟨e, hT⟩
    · exact absurd (hk.mp q) hs
    · exact absurd (hk.mp q) hs
  · have hat := hk.mpr hs
    rcases hev with ⟨q, _⟩ | ⟨_, _, e, e7⟩ | ⟨_, q, _⟩
    · exact absurd hat q
    · rw [e7]; exact ⟨e, hT⟩
    · exact absurd hb q
  · have hat := hk.mpr hs
    obtain ⟨x1, x2, x3⟩ := hT.at hat hfi hs
    rcases hev with ⟨q, _⟩ | ⟨_, q, _⟩ | ⟨_, _, e, e7, e8⟩
    · exact absurd hat q
    · exact absurd q hb
    · have h9 := hT.put hp hat hfi hs (v := fl s1) (w := n2) (by rw [x1]; exact hT.2.2.2.2.2 kp hat.1)
      rw [updJ_id, x1, fup_id] at h9
      rw [e7, x2]; exact ⟨⟨e, e8⟩, h9⟩
theorem tn_add (hT : tie pm cnt fd tt xt li la t0 f0 l0 fu fn fx fi fl) (hp : cls_pm pm cnt fd xt)
    (hev : fd1 = fd ∧ (((n1 < 256 ∨ ¬ okW n7) ∧ r = 1 ∧ pm1 = pm ∧ cnt1 = cnt ∧ tt1 = tt ∧ xt1 = xt ∧ li1 = li ∧ la1 = la) ∨ (¬ (n1 < 256 ∨ ¬ okW n7) ∧ r = 0 ∧ ∃ kp, isPl (fun j => tt (pm j)) cnt n1 kp ∧ (((16 ≤ cnt ∨ (kp < cnt ∧ tt (pm kp) = n1)) ∧ pm1 = pm ∧ cnt1 = cnt ∧ tt1 = tt ∧ xt1 = xt ∧ li1 = li ∧ la1 = la ∧ ∀ z, P1 z → z = 0) ∨ (¬ (16 ≤ cnt ∨ (kp < cnt ∧ tt (pm kp) = n1)) ∧ pm1 = (fun j => pm (si kp cnt j)) ∧ cnt1 = cnt + 1 ∧ tt1 = fup tt (pm cnt) n1 ∧ xt1 = fup xt (pm cnt) n8 ∧ li1 = fup li (pm cnt) 1000000000 ∧ la1 = fup la (pm cnt) 0 ∧ ∀ z, P1 z → z = 1))))) :
    ((n1 < 256 ∨ ¬ okW n7) → r = 1 ∧ tie pm1 cnt1 fd1 tt1 xt1 li1 la1 t0 f0 l0 fu fn fx fi fl) ∧ (¬ (n1 < 256 ∨ ¬ okW n7) → ∀ s1, isFi fu fn n1 s1 → (s1 < 16 → (r = 0 ∧ ∀ z, P1 z → z = 0) ∧ tie pm1 cnt1 fd1 tt1 xt1 li1 la1 t0 f0 l0 fu fn fx fi fl) ∧ (¬ s1 < 16 → ((∀ j, j < 16 → ¬ fu j = 0) → (r = 0 ∧ ∀ z, P1 z → z = 0) ∧ tie pm1 cnt1 fd1 tt1 xt1 li1 la1 t0 f0 l0 fu fn fx fi fl) ∧ (∀ q1, q1 < 16 → fu q1 = 0 → (r = 0 ∧ ∀ z, P1 z → z = 1) ∧ tie pm1 cnt1 fd1 tt1 xt1 li1 la1 t0 f0 l0 (upd fu q1 1) (upd fn q1 n1) (upd fx q1 n8) (upd fi q1 1000000000) (vp_updL fl q1 0)))) := by
  obtain ⟨e0, hev⟩ := hev
  rw [e0]
  refine ⟨fun hb => ?_, fun hb s1 hfi => ?_⟩
  · rcases hev with ⟨_, e, e1, e2, e4, e5, e6, e7⟩ | ⟨q, _⟩
    · rw [e1, e2, e4, e5, e6, e7]; exact ⟨e, hT⟩
    · exact absurd hb q
  · rcases hev with ⟨q, _⟩ | ⟨_, er, kp, hkp, hev⟩
    · exact absurd q hb
    have hk := hT.kn hkp hfi
    have same : (16 ≤ cnt ∨ (kp < cnt ∧ tt (pm kp) = n1)) → (r = 0 ∧ ∀ z, P1 z → z = 0) ∧ tie pm1 cnt1 fd tt1 xt1 li1 la1 t0 f0 l0 fu fn fx fi fl := fun hf => by
      rcases hev with ⟨_, e1, e2, e4, e5, e6, e7, ez⟩ | ⟨q, _⟩
      · rw [e1, e2, e4, e5, e6, e7]; exact ⟨⟨er, ez⟩, hT⟩
      · exact absurd hf q
    refine ⟨fun hs => same (Or.inr (hk.mpr hs)), fun hs => ⟨fun ha => same (Or.inl (hT.all ha)), fun q1 hq hz => ?_⟩⟩
    have hc := hT.free hq hz
    have hna : ¬ (kp < cnt ∧ tt (pm kp) = n1) := fun q => hs (hk.mp q)
    rcases hev with ⟨q, _⟩ | ⟨_, e1, e2, e4, e5, e6, e7, ez⟩
    · exact (q.elim (fun h => absurd hc (by omega)) (fun h => absurd h hna))
    · rw [e1, e2, e4, e5, e6, e7]
      exact ⟨⟨er, ez⟩, hT.add hp hkp hc hna (fun j hj => hfi.2.1 j (by omega)) hq hz⟩
theorem l_le_eq {a b : Int64} (h : ¬ b < a) : (b ≤ a) ↔ a = b := by
  constructor
  · intro q
    rw [Int64.lt_iff_toInt_lt] at h
    rw [Int64.le_iff_toInt_le] at q
    exact Int64.toInt_inj.mp (by omega)
  · intro q; rw [q]; exact Int64.le_refl _
theorem l_inc {a b : Int64} (h : ¬ b ≤ a) : ¬ b < a + 1 := by
  rw [Int64.le_iff_toInt_le] at h
  rw [Int64.lt_iff_toInt_lt]
  have h1 := b.toInt_lt
  have h2 := a.le_toInt
  have e1 : (1 : Int64).toInt = 1 := rfl
  have e : (a + 1).toInt = a.toInt + 1 := by
    rw [Int64.toInt_add, e1]
    exact Int.bmod_eq_of_le (by omega) (by omega)
  omega
theorem tn_seal (hT : tie pm cnt fd tt xt li la t0 f0 l0 fu fn fx fi fl) (hp : cls_pm pm cnt fd xt) (hfi : isFi fu fn n1 s1)
    (hev : ∃ kp, isPl (fun j => tt (pm j)) cnt n1 kp ∧ pm1 = pm ∧ cnt1 = cnt ∧ fd1 = fd ∧ tt1 = tt ∧ xt1 = xt ∧ ((¬ (kp < cnt ∧ tt (pm kp) = n1) ∧ r = 1 ∧ li1 = li ∧ la1 = la) ∨ ((kp < cnt ∧ tt (pm kp) = n1) ∧ ¬ okB n2 ∧ r = 2 ∧ li1 = li ∧ la1 = la) ∨ ((kp < cnt ∧ tt (pm kp) = n1) ∧ okB n2 ∧ r = 0 ∧ (((gre (xt (pm kp)) ≤ la (pm kp) ∨ li (pm kp) < nI fd) ∧ li1 = li ∧ la1 = la) ∨ (¬ (gre (xt (pm kp)) ≤ la (pm kp) ∨ li (pm kp) < nI fd) ∧ li1 = fup li (pm kp) (li (pm kp) - nI fd) ∧ la1 = fup la (pm kp) (la (pm kp) + 1)))))) :
    (¬ s1 < 16 → r = 1 ∧ tie pm1 cnt1 fd1 tt1 xt1 li1 la1 t0 f0 l0 fu fn fx fi fl) ∧ (s1 < 16 → (¬ okB n2 → r = 2 ∧ tie pm1 cnt1 fd1 tt1 xt1 li1 la1 t0 f0 l0 fu fn fx fi fl) ∧ (okB n2 → r = 0 ∧ ((fl s1 = gre (fx s1) ∨ ¬ nI f0 ≤ fi s1) → tie pm1 cnt1 fd1 tt1 xt1 li1 la1 t0 f0 l0 fu fn fx fi fl) ∧ (¬ (fl s1 = gre (fx s1) ∨ ¬ nI f0 ≤ fi s1) → tie pm1 cnt1 fd1 tt1 xt1 li1 la1 t0 f0 l0 fu fn fx (upd fi s1 (fi s1 - nI f0)) (vp_updL fl s1 (fl s1 + 1))))) := by
  obtain ⟨kp, hkp, e1, e2, e3, e4, e5, hev⟩ := hev
  rw [e1, e2, e3, e4, e5]
  have hk := hT.kn hkp hfi
  refine ⟨fun hs => ?_, fun hs => ⟨fun hb => ?_, fun hb => ?_⟩⟩
  · rcases hev with ⟨_, e, e6, e7⟩ | ⟨q, _⟩ | ⟨q, _⟩
    · rw [e6, e7]; exact ⟨e, hT⟩
    · exact absurd (hk.mp q) hs
    · exact absurd (hk.mp q) hs
  · have hat := hk.mpr hs
    rcases hev with ⟨q, _⟩ | ⟨_, _, e, e6, e7⟩ | ⟨_, q, _⟩
    · exact absurd hat q
    · rw [e6, e7]; exact ⟨e, hT⟩
    · exact absurd q hb
  · have hat := hk.mpr hs
    obtain ⟨x1, x2, x3⟩ := hT.at hat hfi hs
    have h5 := hT.2.2.2.2.2 kp hat.1
    have hc : (fl s1 = gre (fx s1) ∨ ¬ nI f0 ≤ fi s1) ↔ (gre (xt (pm kp)) ≤ la (pm kp) ∨ li (pm kp) < nI fd) := by
      rw [x1, x2, x3, hT.1, l_le_eq h5, Int32.not_le]
    rcases hev with ⟨q, _⟩ | ⟨_, q, _⟩ | ⟨_, _, e, hev⟩
    · exact absurd hat q
    · exact absurd hb q
    · refine ⟨e, fun h => ?_, fun h => ?_⟩
      · rcases hev with ⟨_, e6, e7⟩ | ⟨q, _⟩
        · rw [e6, e7]; exact hT
        · exact absurd (hc.mp h) q
      · rcases hev with ⟨q, _⟩ | ⟨hn, e6, e7⟩
        · exact absurd (hc.mpr q) h
        · have h9 := hT.put hp hat hfi hs (v := la (pm kp) + 1) (w := li (pm kp) - nI fd) (l_inc (fun q => hn (Or.inl q)))
          rw [e6, e7, x1, x2, show nI f0 = nI fd from congrArg nI hT.1.symm]; exact h9
theorem tn_feed (hT : tie pm cnt fd tt xt li la t0 f0 l0 fu fn fx fi fl)
    (hev : pm1 = pm ∧ cnt1 = cnt ∧ tt1 = tt ∧ xt1 = xt ∧ li1 = li ∧ la1 = la ∧ (((n1 < 1 ∨ ¬ n1 ≤ 8) ∧ r = 1 ∧ fd1 = fd) ∨ (¬ (n1 < 1 ∨ ¬ n1 ≤ 8) ∧ r = 0 ∧ ∃ n : Nat, 1 ≤ n ∧ n ≤ 8 ∧ n1 = nI n ∧ ((200 < fd + n ∧ fd1 = fd ∧ ∀ z, P1 z → z = (-1 : Int32).toInt64) ∨ (fd + n ≤ 200 ∧ fd1 = fd + n ∧ ∀ z, P1 z → z = (nI (fd + n)).toInt64))))) {f1 : Nat} (hf : fd1 = f1) : tie pm1 cnt1 fd1 tt1 xt1 li1 la1 t0 f1 l0 fu fn fx fi fl := by
  obtain ⟨e1, e2, e3, e4, e5, e6, -⟩ := hev
  rw [e1, e2, e3, e4, e5, e6]; exact hT.fdw hf
theorem tn_stay (hT : tie pm cnt fd tt xt li la t0 f0 l0 fu fn fx fi fl) (hev : pm1 = pm ∧ cnt1 = cnt ∧ fd1 = fd ∧ tt1 = tt ∧ xt1 = xt ∧ li1 = li ∧ la1 = la) : tie pm1 cnt1 fd1 tt1 xt1 li1 la1 t0 f0 l0 fu fn fx fi fl := by
  obtain ⟨e1, e2, e3, e4, e5, e6, e7⟩ := hev
  rw [e1, e2, e3, e4, e5, e6, e7]; exact hT
end TIE2
section TIE4
variable {pm : Nat → Nat} {cnt fd : Nat} {tt xt li : Nat → Int32} {la : Nat → Int64} {t0 : Int32} {f0 l0 : Nat} {fu fn fx fi : Nat → Int32} {fl : Nat → Int64} {n1 n2 : Int32} {s1 : Nat} {P1 : Int64 → Prop}
theorem tn_sealo (hT : tie pm cnt fd tt xt li la t0 f0 l0 fu fn fx fi fl) (hfi : isFi fu fn n1 s1) (hs : s1 < 16) (hb : okB n2)
    (ho : ∀ kp, isPl (fun j => tt (pm j)) cnt n1 kp → (kp < cnt ∧ tt (pm kp) = n1) → okB n2 → ((gre (xt (pm kp)) ≤ la (pm kp) ∨ li (pm kp) < nI fd) → ∀ z, P1 z → z = (-1 : Int32).toInt64) ∧ (¬ (gre (xt (pm kp)) ≤ la (pm kp) ∨ li (pm kp) < nI fd) → ∀ z, P1 z → z = (nI (fd + 34 + (4 - (fd + 2) % 4) % 4)).toInt64)) :
    ((fl s1 = gre (fx s1) ∨ ¬ nI f0 ≤ fi s1) → ∀ z, P1 z → z = (-1 : Int32).toInt64) ∧ (¬ (fl s1 = gre (fx s1) ∨ ¬ nI f0 ≤ fi s1) → ∀ z, P1 z → z = (nI (f0 + 34 + (4 - (f0 + 2) % 4) % 4)).toInt64) := by
  obtain ⟨kp, hkp⟩ := isPl.ex (fun j => tt (pm j)) n1 cnt
  have hat := (hT.kn hkp hfi).mpr hs
  obtain ⟨x1, x2, x3⟩ := hT.at hat hfi hs
  have h5 := hT.2.2.2.2.2 kp hat.1
  have hc : (fl s1 = gre (fx s1) ∨ ¬ nI f0 ≤ fi s1) ↔ (gre (xt (pm kp)) ≤ la (pm kp) ∨ li (pm kp) < nI fd) := by
    rw [x1, x2, x3, hT.1, l_le_eq h5, Int32.not_le]
  obtain ⟨o1, o2⟩ := ho kp hkp hat hb
  rw [hT.1] at o2
  exact ⟨fun h => o1 (hc.mp h), fun h => o2 (fun q => h (hc.mpr (by rw [hT.1]; exact q)))⟩
end TIE4

/-- behind a call -/
def lwK (p : Program) (l : Launch) (e : Env) (s : State) (m : MethodId) (below : List Frame) (meth : Method) (c : Code) (b : Nat) (D : gw_D) (A : Nat → Nat → Nat) (o : Nat) (q : Nat → Nat) (ou : Nat) (y4 : Int32) (c0 s0 B0 : Nat) : Prop := ∀ (G : gw_G) (H : Heap) (locs : List Loc) (ls : Array Slot) (pm : Nat → Nat) (cnt fd : Nat) (tt xt li : Nat → Int32) (la : Nat → Int64) (B : Nat) (t0 : Int32) (f0 l0 g0 : Nat) (fu fn fx fi : Nat → Int32) (fl : Nat → Int64) (P : Int64 → Prop), B ≤ B0 + 1 → cls D G A pm cnt fd tt xt li la → mdl D G o q B t0 f0 l0 g0 fu fn fx fi fl → G ou = some (kL D 1 P) → tie pm cnt fd tt xt li la t0 f0 l0 fu fn fx fi fl → gw_I D s.heap G s.heap H locs → lv_has ls 8 [(4, .int y4), (3, .ref ou), (2, .ref o), (1, .ref (A 0 0)), (0, .ref b)] → W p l e room_1 s m #[Value.ref b] below meth c H locs (c0 + 1) (s0 + 6) (lw_Z below #[Value.ref b] s) (F0 m 905 ls [])

set_option maxHeartbeats 4000000 in
set_option maxRecDepth 100000 in
theorem law_0 {p : Program} {l : Launch} {e : Env} {s : State} {m : MethodId} {below : List Frame} {meth : Method} {c : Code} {b L : Nat} {xs : Nat → Int32} (C0 : lw_At p s m meth c b L xs) (htr : l.stackTraces = false) {D : gw_D} (hK : gw_K D s.heap s) (hL : L ≤ 4608) {G : gw_G} {H : Heap} {locs : List Loc} {A : Nat → Nat → Nat} {o ou : Nat} {q : Nat → Nat} {P : Int64 → Prop} {pm : Nat → Nat} {cnt fd : Nat} {tt xt li : Nat → Int32} {la : Nat → Int64} {B : Nat} {t0 : Int32} {f0 l0 g0 : Nat} {fu fn fx fi : Nat → Int32} {fl : Nat → Int64} (hC : cls D G A pm cnt fd tt xt li la) (hM : mdl D G o q B t0 f0 l0 g0 fu fn fx fi fl) (hU : G ou = some (kL D 1 P)) (hap : ∀ k i, inA k i → ¬ mown o q (A k i)) (hmu : ¬ mown o q ou) (hT : tie pm cnt fd tt xt li la t0 f0 l0 fu fn fx fi fl) (hB6 : B ≤ 600) {y4 : Int32} {j9 c0 s0 : Nat} (hy : y4 = nI j9) (h9 : j9 + 9 ≤ L) (hc0 : c0 ≤ 1000) (hs0 : s0 ≤ 80000) (kk : lwK p l e s m below meth c b D A o q ou y4 c0 s0 B) (hI : gw_I D s.heap G s.heap H locs) (ls : Array Slot) (hl : lv_has ls 8 [(4, .int y4), (3, .ref ou), (2, .ref o), (1, .ref (A 0 0)), (0, .ref b)]) : W p l e room_1 s m #[Value.ref b] below meth c H locs c0 s0 (lw_Z below #[Value.ref b] s) (F0 m 132 ls []) := by
  obtain ⟨hx, hb, hr, hml, hown, hts, hX, hbl, hlocks, hgv⟩ := id C0
  have M : CallFix p m c b_La_law 8 s #[Value.ref b] tb R_La := ⟨hx, hb, hml, hown, fun w h => hts w (tb_in h)⟩
  have hbA : ¬ gw_A s.heap b := Nat.not_le.mpr hbl
  have hp0 := hC.p
  refine lv_aload_n hx hb d_La_law_132 rfl (lv_at hl 3 rfl) ?_
  refine lv_aload_n hx hb d_La_law_133 rfl (lv_at hl 4 rfl) ?_
  refine lv_iload hx hb d_La_law_134 (lv_at hl 0 rfl) ?_
  refine lv_iconst (v := 1) hx hb d_La_law_136 (by decide) ?_
  refine lv_iadd hx hb d_La_law_137 ?_
  refine va_sld hx hb hX hbl hbA hI.2 (nb_in (nb_add hy 1) (by omega) (by omega)) d_La_law_138 ?_
  refine lv_aload_n hx hb d_La_law_139 rfl (lv_at hl 4 rfl) ?_
  refine lv_iload hx hb d_La_law_140 (lv_at hl 0 rfl) ?_
  refine lv_iconst (v := 2) hx hb d_La_law_142 (by decide) ?_
  refine lv_iadd hx hb d_La_law_143 ?_
  refine va_sld hx hb hX hbl hbA hI.2 (nb_in (nb_add hy 2) (by omega) (by omega)) d_La_law_144 ?_
  refine lv_i2l hx hb d_La_law_145 rfl ?_
  refine lv_bipush (v := 32) hx hb d_La_law_146 (by decide) ?_
  refine lv_lshl hx hb d_La_law_148 rfl ?_
  refine lv_aload_n hx hb d_La_law_149 rfl (lv_at hl 4 rfl) ?_
  refine lv_iload hx hb d_La_law_150 (lv_at hl 0 rfl) ?_
  refine lv_iconst (v := 3) hx hb d_La_law_152 (by decide) ?_
  refine lv_iadd hx hb d_La_law_153 ?_
  refine va_sld hx hb hX hbl hbA hI.2 (nb_in (nb_add hy 3) (by omega) (by omega)) d_La_law_154 ?_
  refine lv_i2l hx hb d_La_law_155 rfl ?_
  refine lv_ldc2 (v := 4294967295) hx hb M.2.2.2.1 (M.2.2.2.2 _ o_La_59) d_La_law_156 ?_
  refine lv_land hx hb d_La_law_159 ?_
  refine lv_lor hx hb d_La_law_160 ?_
  refine lv_aload_n hx hb d_La_law_161 rfl (lv_at hl 4 rfl) ?_
  refine lv_iload hx hb d_La_law_162 (lv_at hl 0 rfl) ?_
  refine lv_iconst (v := 4) hx hb d_La_law_164 (by decide) ?_
  refine lv_iadd hx hb d_La_law_165 ?_
  refine va_sld hx hb hX hbl hbA hI.2 (nb_in (nb_add hy 4) (by omega) (by omega)) d_La_law_166 ?_
  refine lv_i2l hx hb d_La_law_167 rfl ?_
  refine lv_bipush (v := 32) hx hb d_La_law_168 (by decide) ?_
  refine lv_lshl hx hb d_La_law_170 rfl ?_
  refine lv_aload_n hx hb d_La_law_171 rfl (lv_at hl 4 rfl) ?_
  refine lv_iload hx hb d_La_law_172 (lv_at hl 0 rfl) ?_
  refine lv_iconst (v := 5) hx hb d_La_law_174 (by decide) ?_
  refine lv_iadd hx hb d_La_law_175 ?_
  refine va_sld hx hb hX hbl hbA hI.2 (nb_in (nb_add hy 5) (by omega) (by omega)) d_La_law_176 ?_
  refine lv_i2l hx hb d_La_law_177 rfl ?_
  refine lv_ldc2 (v := 4294967295) hx hb M.2.2.2.1 (M.2.2.2.2 _ o_La_59) d_La_law_178 ?_
  refine lv_land hx hb d_La_law_181 ?_
  refine lv_lor hx hb d_La_law_182 ?_
  refine lv_aload_n hx hb d_La_law_183 rfl (lv_at hl 4 rfl) ?_
  refine lv_iload hx hb d_La_law_184 (lv_at hl 0 rfl) ?_
  refine lv_bipush (v := 6) hx hb d_La_law_186 (by decide) ?_
  refine lv_iadd hx hb d_La_law_188 ?_
  refine va_sld hx hb hX hbl hbA hI.2 (nb_in (nb_add hy 6) (by omega) (by omega)) d_La_law_189 ?_
  refine lv_aload_n hx hb d_La_law_190 rfl (lv_at hl 4 rfl) ?_
  refine lv_iload hx hb d_La_law_191 (lv_at hl 0 rfl) ?_
  refine lv_bipush (v := 7) hx hb d_La_law_193 (by decide) ?_
  refine lv_iadd hx hb d_La_law_195 ?_
  refine va_sld hx hb hX hbl hbA hI.2 (nb_in (nb_add hy 7) (by omega) (by omega)) d_La_law_196 ?_
  refine lv_aload_n hx hb d_La_law_197 rfl (lv_at hl 4 rfl) ?_
  refine lv_iload hx hb d_La_law_198 (lv_at hl 0 rfl) ?_
  refine lv_bipush (v := 8) hx hb d_La_law_200 (by decide) ?_
  refine lv_iadd hx hb d_La_law_202 ?_
  refine va_sld hx hb hX hbl hbA hI.2 (nb_in (nb_add hy 8) (by omega) (by omega)) d_La_law_203 ?_
  refine lv_if_eq (tgt := 211) hx hb d_La_law_204 (by decide) (fun c_204 => ?_) (fun c_204 => ?_)
  · have hn8 := c_204
    refine lv_iconst (v := 0) hx hb d_La_law_211 (by decide) ?_
    refine lv_aload_n hx hb d_La_law_212 rfl (lv_at hl 1 rfl) ?_
    have hIs := hI
    refine gw_Wi (As := [.ref (A 0 0), .int (xs (y4 + (1 : Int32)).toNatClampNeg), .long (((((xs (y4 + (2 : Int32)).toNatClampNeg)).toInt64) <<< (((32 : Int32)).toInt64 &&& 63)) ||| ((((xs (y4 + (3 : Int32)).toNatClampNeg)).toInt64) &&& (4294967295 : Int64))), .long (((((xs (y4 + (4 : Int32)).toNatClampNeg)).toInt64) <<< (((32 : Int32)).toInt64 &&& 63)) ||| ((((xs (y4 + (5 : Int32)).toNatClampNeg)).toInt64) &&& (4294967295 : Int64))), .int (xs (y4 + (6 : Int32)).toNatClampNeg), .int (xs (y4 + (7 : Int32)).toNatClampNeg), .int 0, .ref ou]) (rest := []) M hK hI (c_La_add l htr A pm cnt fd tt xt li la hC (xs (y4 + (1 : Int32)).toNatClampNeg) (((((xs (y4 + (2 : Int32)).toNatClampNeg)).toInt64) <<< (((32 : Int32)).toInt64 &&& 63)) ||| ((((xs (y4 + (3 : Int32)).toNatClampNeg)).toInt64) &&& (4294967295 : Int64))) (((((xs (y4 + (4 : Int32)).toNatClampNeg)).toInt64) <<< (((32 : Int32)).toInt64 &&& 63)) ||| ((((xs (y4 + (5 : Int32)).toNatClampNeg)).toInt64) &&& (4294967295 : Int64))) (xs (y4 + (6 : Int32)).toNatClampNeg) (xs (y4 + (7 : Int32)).toNatClampNeg) (0 : Int32) (Or.inl rfl) ou P hU) k_La_add m_La_61 rfl hl.1 rfl (Nat.le_of_ble_eq_true rfl) ⟨rfl, rfl, ⟨Nat.le_of_ble_eq_true rfl, Nat.le_of_ble_eq_true rfl⟩, ⟨(by show _ ≤ 601024; omega), (by show _ ≤ 7293034; omega)⟩⟩ d_La_law_213 (fun x1 G2 H locs hw hI => ?_)
    obtain ⟨pm1, cnt1, fd1, tt1, xt1, li1, la1, P1, hC1, hU1, hfr1, hev⟩ := hw
    have hM := hM.fr hfr1 (apU hap hmu)
    have hU := hU1
    have hC := hC1
    obtain ⟨P, hP⟩ : ∃ z, z = P1 := ⟨_, rfl⟩
    rw [← hP] at hU
    refine lv_istore (lv' := [(5, .int x1), (4, .int y4), (3, .ref ou), (2, .ref o), (1, .ref (A 0 0)), (0, .ref b)]) hx hb d_La_law_216 hl (by decide) rfl (fun ls hl => ?_)
    refine lv_aload_n hx hb d_La_law_218 rfl (lv_at hl 3 rfl) ?_
    refine lv_aload_n hx hb d_La_law_219 rfl (lv_at hl 5 rfl) ?_
    refine lv_iload hx hb d_La_law_220 (lv_at hl 1 rfl) ?_
    refine lv_iconst (v := 1) hx hb d_La_law_222 (by decide) ?_
    refine lv_iadd hx hb d_La_law_223 ?_
    refine va_sld hx hb hX hbl hbA hI.2 (nb_in (nb_add hy 1) (by omega) (by omega)) d_La_law_224 ?_
    refine lv_aload_n hx hb d_La_law_225 rfl (lv_at hl 5 rfl) ?_
    refine lv_iload hx hb d_La_law_226 (lv_at hl 1 rfl) ?_
    refine lv_iconst (v := 2) hx hb d_La_law_228 (by decide) ?_
    refine lv_iadd hx hb d_La_law_229 ?_
    refine va_sld hx hb hX hbl hbA hI.2 (nb_in (nb_add hy 2) (by omega) (by omega)) d_La_law_230 ?_
    refine lv_i2l hx hb d_La_law_231 rfl ?_
    refine lv_bipush (v := 32) hx hb d_La_law_232 (by decide) ?_
    refine lv_lshl hx hb d_La_law_234 rfl ?_
    refine lv_aload_n hx hb d_La_law_235 rfl (lv_at hl 5 rfl) ?_
    refine lv_iload hx hb d_La_law_236 (lv_at hl 1 rfl) ?_
    refine lv_iconst (v := 3) hx hb d_La_law_238 (by decide) ?_
    refine lv_iadd hx hb d_La_law_239 ?_
    refine va_sld hx hb hX hbl hbA hI.2 (nb_in (nb_add hy 3) (by omega) (by omega)) d_La_law_240 ?_
    refine lv_i2l hx hb d_La_law_241 rfl ?_
    refine lv_ldc2 (v := 4294967295) hx hb M.2.2.2.1 (M.2.2.2.2 _ o_La_59) d_La_law_242 ?_
    refine lv_land hx hb d_La_law_245 ?_
    refine lv_lor hx hb d_La_law_246 ?_
    refine lv_aload_n hx hb d_La_law_247 rfl (lv_at hl 5 rfl) ?_
    refine lv_iload hx hb d_La_law_248 (lv_at hl 1 rfl) ?_
    refine lv_iconst (v := 4) hx hb d_La_law_250 (by decide) ?_
    refine lv_iadd hx hb d_La_law_251 ?_
    refine va_sld hx hb hX hbl hbA hI.2 (nb_in (nb_add hy 4) (by omega) (by omega)) d_La_law_252 ?_
    refine lv_i2l hx hb d_La_law_253 rfl ?_
    refine lv_bipush (v := 32) hx hb d_La_law_254 (by decide) ?_
    refine lv_lshl hx hb d_La_law_256 rfl ?_
    refine lv_aload_n hx hb d_La_law_257 rfl (lv_at hl 5 rfl) ?_
    refine lv_iload hx hb d_La_law_258 (lv_at hl 1 rfl) ?_
    refine lv_iconst (v := 5) hx hb d_La_law_260 (by decide) ?_
    refine lv_iadd hx hb d_La_law_261 ?_
    refine va_sld hx hb hX hbl hbA hI.2 (nb_in (nb_add hy 5) (by omega) (by omega)) d_La_law_262 ?_
    refine lv_i2l hx hb d_La_law_263 rfl ?_
    refine lv_ldc2 (v := 4294967295) hx hb M.2.2.2.1 (M.2.2.2.2 _ o_La_59) d_La_law_264 ?_
    refine lv_land hx hb d_La_law_267 ?_
    refine lv_lor hx hb d_La_law_268 ?_
    refine lv_aload_n hx hb d_La_law_269 rfl (lv_at hl 5 rfl) ?_
    refine lv_iload hx hb d_La_law_270 (lv_at hl 1 rfl) ?_
    refine lv_bipush (v := 6) hx hb d_La_law_272 (by decide) ?_
    refine lv_iadd hx hb d_La_law_274 ?_
    refine va_sld hx hb hX hbl hbA hI.2 (nb_in (nb_add hy 6) (by omega) (by omega)) d_La_law_275 ?_
    refine lv_aload_n hx hb d_La_law_276 rfl (lv_at hl 5 rfl) ?_
    refine lv_iload hx hb d_La_law_277 (lv_at hl 1 rfl) ?_
    refine lv_bipush (v := 7) hx hb d_La_law_279 (by decide) ?_
    refine lv_iadd hx hb d_La_law_281 ?_
    refine va_sld hx hb hX hbl hbA hI.2 (nb_in (nb_add hy 7) (by omega) (by omega)) d_La_law_282 ?_
    refine lv_aload_n hx hb d_La_law_283 rfl (lv_at hl 5 rfl) ?_
    refine lv_iload hx hb d_La_law_284 (lv_at hl 1 rfl) ?_
    refine lv_bipush (v := 8) hx hb d_La_law_286 (by decide) ?_
    refine lv_iadd hx hb d_La_law_288 ?_
    refine va_sld hx hb hX hbl hbA hI.2 (nb_in (nb_add hy 8) (by omega) (by omega)) d_La_law_289 ?_
    refine lv_if_eq (tgt := 297) hx hb d_La_law_290 (by decide) (fun c_290 => ?_) (fun q9 => absurd hn8 q9)
    refine lv_iconst (v := 0) hx hb d_La_law_297 (by decide) ?_
    by_cases hbm : (xs (y4 + (1 : Int32)).toNatClampNeg) < 256 ∨ ¬ okW (xs (y4 + (7 : Int32)).toNatClampNeg)
    · have hIs := hI
      refine gw_Vi (As := [.int (xs (y4 + (1 : Int32)).toNatClampNeg), .long (((((xs (y4 + (2 : Int32)).toNatClampNeg)).toInt64) <<< (((32 : Int32)).toInt64 &&& 63)) ||| ((((xs (y4 + (3 : Int32)).toNatClampNeg)).toInt64) &&& (4294967295 : Int64))), .long (((((xs (y4 + (4 : Int32)).toNatClampNeg)).toInt64) <<< (((32 : Int32)).toInt64 &&& 63)) ||| ((((xs (y4 + (5 : Int32)).toNatClampNeg)).toInt64) &&& (4294967295 : Int64))), .int (xs (y4 + (6 : Int32)).toNatClampNeg), .int (xs (y4 + (7 : Int32)).toNatClampNeg), .int 0]) (rest := []) M hK hI (c_Mo_addb l o q B t0 f0 l0 g0 fu fn fx fi fl hM (xs (y4 + (1 : Int32)).toNatClampNeg) (((((xs (y4 + (2 : Int32)).toNatClampNeg)).toInt64) <<< (((32 : Int32)).toInt64 &&& 63)) ||| ((((xs (y4 + (3 : Int32)).toNatClampNeg)).toInt64) &&& (4294967295 : Int64))) (((((xs (y4 + (4 : Int32)).toNatClampNeg)).toInt64) <<< (((32 : Int32)).toInt64 &&& 63)) ||| ((((xs (y4 + (5 : Int32)).toNatClampNeg)).toInt64) &&& (4294967295 : Int64))) (xs (y4 + (6 : Int32)).toNatClampNeg) (xs (y4 + (7 : Int32)).toNatClampNeg) (0 : Int32) hbm) k_Mo_add m_La_66 hM.O (ci := 6) rfl (fun x hx => ⟨_, hx⟩) rfl hl.1 rfl (Nat.le_of_ble_eq_true rfl) ⟨rfl, rfl, ⟨Nat.le_of_ble_eq_true rfl, Nat.le_of_ble_eq_true rfl⟩, ⟨(by show _ ≤ 601024; omega), (by show _ ≤ 7293034; omega)⟩⟩ d_La_law_298 (fun x3 G4 H locs hw hI => ?_)
      obtain ⟨h_x3, hM1, hf1⟩ := hw
      have hC := hC.fr hf1 hap
      have hU := hf1 _ _ hU hmu
      have hM := hM1
      refine lv_istore (lv' := [(6, .int x3), (5, .int x1), (4, .int y4), (3, .ref ou), (2, .ref o), (1, .ref (A 0 0)), (0, .ref b)]) hx hb d_La_law_301 hl (by decide) rfl (fun ls hl => ?_)
      refine lv_goto (tgt := 905) hx hb d_La_law_303 (by decide) ?_
      exact kk _ _ _ _ pm1 cnt1 fd1 tt1 xt1 li1 la1 B 1 f0 l0 g0 fu fn fx fi fl P (Nat.le_succ _) hC hM hU (((tn_add hT hp0 hev).1 hbm).2) hI (lv_sub hl [2, 3, 4, 5, 6] rfl)
    · have hokm : ¬ (xs (y4 + (1 : Int32)).toNatClampNeg) < 256 ∧ okW (xs (y4 + (7 : Int32)).toNatClampNeg) := ⟨fun h => hbm (Or.inl h), Classical.not_not.mp (fun h => hbm (Or.inr h))⟩
      obtain ⟨s1, hfi⟩ := isFi.ex fu fn (xs (y4 + (1 : Int32)).toNatClampNeg)
      have hfi0 := hfi
      by_cases hs1 : s1 < 16
      · have hIs := hI
        refine gw_Vi (As := [.int (xs (y4 + (1 : Int32)).toNatClampNeg), .long (((((xs (y4 + (2 : Int32)).toNatClampNeg)).toInt64) <<< (((32 : Int32)).toInt64 &&& 63)) ||| ((((xs (y4 + (3 : Int32)).toNatClampNeg)).toInt64) &&& (4294967295 : Int64))), .long (((((xs (y4 + (4 : Int32)).toNatClampNeg)).toInt64) <<< (((32 : Int32)).toInt64 &&& 63)) ||| ((((xs (y4 + (5 : Int32)).toNatClampNeg)).toInt64) &&& (4294967295 : Int64))), .int (xs (y4 + (6 : Int32)).toNatClampNeg), .int (xs (y4 + (7 : Int32)).toNatClampNeg), .int 0]) (rest := []) M hK hI (c_Mo_addk l o q B t0 f0 l0 g0 fu fn fx fi fl hM (xs (y4 + (1 : Int32)).toNatClampNeg) (((((xs (y4 + (2 : Int32)).toNatClampNeg)).toInt64) <<< (((32 : Int32)).toInt64 &&& 63)) ||| ((((xs (y4 + (3 : Int32)).toNatClampNeg)).toInt64) &&& (4294967295 : Int64))) (((((xs (y4 + (4 : Int32)).toNatClampNeg)).toInt64) <<< (((32 : Int32)).toInt64 &&& 63)) ||| ((((xs (y4 + (5 : Int32)).toNatClampNeg)).toInt64) &&& (4294967295 : Int64))) (xs (y4 + (6 : Int32)).toNatClampNeg) (xs (y4 + (7 : Int32)).toNatClampNeg) (0 : Int32) hokm s1 hfi hs1) k_Mo_add m_La_66 hM.O (ci := 6) rfl (fun x hx => ⟨_, hx⟩) rfl hl.1 rfl (Nat.le_of_ble_eq_true rfl) ⟨rfl, rfl, ⟨Nat.le_of_ble_eq_true rfl, Nat.le_of_ble_eq_true rfl⟩, ⟨(by show _ ≤ 601024; omega), (by show _ ≤ 7293034; omega)⟩⟩ d_La_law_298 (fun x5 G6 H locs hw hI => ?_)
        obtain ⟨h_x5, hM1, hf1⟩ := hw
        have hC := hC.fr hf1 hap
        have hU := hf1 _ _ hU hmu
        have hM := hM1
        refine lv_istore (lv' := [(6, .int x5), (5, .int x1), (4, .int y4), (3, .ref ou), (2, .ref o), (1, .ref (A 0 0)), (0, .ref b)]) hx hb d_La_law_301 hl (by decide) rfl (fun ls hl => ?_)
        refine lv_goto (tgt := 905) hx hb d_La_law_303 (by decide) ?_
        exact kk _ _ _ _ pm1 cnt1 fd1 tt1 xt1 li1 la1 B 0 f0 l0 g0 fu fn fx fi fl P (Nat.le_succ _) hC hM hU ((((tn_add hT hp0 hev).2 hbm s1 hfi0).1 hs1).2) hI (lv_sub hl [2, 3, 4, 5, 6] rfl)
      · have hfi := hfi.none hs1
        by_cases hall : ∀ j, j < 16 → ¬ fu j = 0
        · have hIs := hI
          refine gw_Vi (As := [.int (xs (y4 + (1 : Int32)).toNatClampNeg), .long (((((xs (y4 + (2 : Int32)).toNatClampNeg)).toInt64) <<< (((32 : Int32)).toInt64 &&& 63)) ||| ((((xs (y4 + (3 : Int32)).toNatClampNeg)).toInt64) &&& (4294967295 : Int64))), .long (((((xs (y4 + (4 : Int32)).toNatClampNeg)).toInt64) <<< (((32 : Int32)).toInt64 &&& 63)) ||| ((((xs (y4 + (5 : Int32)).toNatClampNeg)).toInt64) &&& (4294967295 : Int64))), .int (xs (y4 + (6 : Int32)).toNatClampNeg), .int (xs (y4 + (7 : Int32)).toNatClampNeg), .int 0]) (rest := []) M hK hI (c_Mo_addo l o q B t0 f0 l0 g0 fu fn fx fi fl hM (xs (y4 + (1 : Int32)).toNatClampNeg) (((((xs (y4 + (2 : Int32)).toNatClampNeg)).toInt64) <<< (((32 : Int32)).toInt64 &&& 63)) ||| ((((xs (y4 + (3 : Int32)).toNatClampNeg)).toInt64) &&& (4294967295 : Int64))) (((((xs (y4 + (4 : Int32)).toNatClampNeg)).toInt64) <<< (((32 : Int32)).toInt64 &&& 63)) ||| ((((xs (y4 + (5 : Int32)).toNatClampNeg)).toInt64) &&& (4294967295 : Int64))) (xs (y4 + (6 : Int32)).toNatClampNeg) (xs (y4 + (7 : Int32)).toNatClampNeg) (0 : Int32) hokm hfi hall) k_Mo_add m_La_66 hM.O (ci := 6) rfl (fun x hx => ⟨_, hx⟩) rfl hl.1 rfl (Nat.le_of_ble_eq_true rfl) ⟨rfl, rfl, ⟨Nat.le_of_ble_eq_true rfl, Nat.le_of_ble_eq_true rfl⟩, ⟨(by show _ ≤ 601024; omega), (by show _ ≤ 7293034; omega)⟩⟩ d_La_law_298 (fun x7 G8 H locs hw hI => ?_)
          obtain ⟨h_x7, hM1, hf1⟩ := hw
          have hC := hC.fr hf1 hap
          have hU := hf1 _ _ hU hmu
          have hM := hM1
          refine lv_istore (lv' := [(6, .int x7), (5, .int x1), (4, .int y4), (3, .ref ou), (2, .ref o), (1, .ref (A 0 0)), (0, .ref b)]) hx hb d_La_law_301 hl (by decide) rfl (fun ls hl => ?_)
          refine lv_goto (tgt := 905) hx hb d_La_law_303 (by decide) ?_
          exact kk _ _ _ _ pm1 cnt1 fd1 tt1 xt1 li1 la1 B 0 f0 l0 g0 fu fn fx fi fl P (Nat.le_succ _) hC hM hU (((((tn_add hT hp0 hev).2 hbm s1 hfi0).2 hs1).1 hall).2) hI (lv_sub hl [2, 3, 4, 5, 6] rfl)
        · obtain ⟨sf, hsf, hz, hb4⟩ := ff_ex hall
          have hIs := hI
          refine gw_Vi (As := [.int (xs (y4 + (1 : Int32)).toNatClampNeg), .long (((((xs (y4 + (2 : Int32)).toNatClampNeg)).toInt64) <<< (((32 : Int32)).toInt64 &&& 63)) ||| ((((xs (y4 + (3 : Int32)).toNatClampNeg)).toInt64) &&& (4294967295 : Int64))), .long (((((xs (y4 + (4 : Int32)).toNatClampNeg)).toInt64) <<< (((32 : Int32)).toInt64 &&& 63)) ||| ((((xs (y4 + (5 : Int32)).toNatClampNeg)).toInt64) &&& (4294967295 : Int64))), .int (xs (y4 + (6 : Int32)).toNatClampNeg), .int (xs (y4 + (7 : Int32)).toNatClampNeg), .int 0]) (rest := []) M hK hI (c_Mo_add l o q B t0 f0 l0 g0 fu fn fx fi fl hM (xs (y4 + (1 : Int32)).toNatClampNeg) (((((xs (y4 + (2 : Int32)).toNatClampNeg)).toInt64) <<< (((32 : Int32)).toInt64 &&& 63)) ||| ((((xs (y4 + (3 : Int32)).toNatClampNeg)).toInt64) &&& (4294967295 : Int64))) (((((xs (y4 + (4 : Int32)).toNatClampNeg)).toInt64) <<< (((32 : Int32)).toInt64 &&& 63)) ||| ((((xs (y4 + (5 : Int32)).toNatClampNeg)).toInt64) &&& (4294967295 : Int64))) (xs (y4 + (6 : Int32)).toNatClampNeg) (xs (y4 + (7 : Int32)).toNatClampNeg) (0 : Int32) hokm hfi (Or.inl rfl) sf hsf hz hb4) k_Mo_add m_La_66 hM.O (ci := 6) rfl (fun x hx => ⟨_, hx⟩) rfl hl.1 rfl (Nat.le_of_ble_eq_true rfl) ⟨rfl, rfl, ⟨Nat.le_of_ble_eq_true rfl, Nat.le_of_ble_eq_true rfl⟩, ⟨(by show _ ≤ 601024; omega), (by show _ ≤ 7293034; omega)⟩⟩ d_La_law_298 (fun x9 G10 H locs hw hI => ?_)
          obtain ⟨h_x9, hM1, hf1⟩ := hw
          have hC := hC.fr hf1 hap
          have hU := hf1 _ _ hU hmu
          have hM := hM1
          refine lv_istore (lv' := [(6, .int x9), (5, .int x1), (4, .int y4), (3, .ref ou), (2, .ref o), (1, .ref (A 0 0)), (0, .ref b)]) hx hb d_La_law_301 hl (by decide) rfl (fun ls hl => ?_)
          refine lv_goto (tgt := 905) hx hb d_La_law_303 (by decide) ?_
          exact kk _ _ _ _ pm1 cnt1 fd1 tt1 xt1 li1 la1 B 0 f0 l0 g0 (upd fu sf 1) (upd fn sf (xs (y4 + (1 : Int32)).toNatClampNeg)) (upd fx sf (0 : Int32)) (upd fi sf 1000000000) (vp_updL fl sf 0) P (Nat.le_succ _) hC hM hU (((((tn_add hT hp0 hev).2 hbm s1 hfi0).2 hs1).2 sf hsf hz).2) hI (lv_sub hl [2, 3, 4, 5, 6] rfl)
  · have hn8 := c_204
    refine lv_iconst (v := 1) hx hb d_La_law_207 (by decide) ?_
    refine lv_goto (tgt := 212) hx hb d_La_law_208 (by decide) ?_
    refine lv_aload_n hx hb d_La_law_212 rfl (lv_at hl 1 rfl) ?_
    have hIs := hI
    refine gw_Wi (As := [.ref (A 0 0), .int (xs (y4 + (1 : Int32)).toNatClampNeg), .long (((((xs (y4 + (2 : Int32)).toNatClampNeg)).toInt64) <<< (((32 : Int32)).toInt64 &&& 63)) ||| ((((xs (y4 + (3 : Int32)).toNatClampNeg)).toInt64) &&& (4294967295 : Int64))), .long (((((xs (y4 + (4 : Int32)).toNatClampNeg)).toInt64) <<< (((32 : Int32)).toInt64 &&& 63)) ||| ((((xs (y4 + (5 : Int32)).toNatClampNeg)).toInt64) &&& (4294967295 : Int64))), .int (xs (y4 + (6 : Int32)).toNatClampNeg), .int (xs (y4 + (7 : Int32)).toNatClampNeg), .int 1, .ref ou]) (rest := []) M hK hI (c_La_add l htr A pm cnt fd tt xt li la hC (xs (y4 + (1 : Int32)).toNatClampNeg) (((((xs (y4 + (2 : Int32)).toNatClampNeg)).toInt64) <<< (((32 : Int32)).toInt64 &&& 63)) ||| ((((xs (y4 + (3 : Int32)).toNatClampNeg)).toInt64) &&& (4294967295 : Int64))) (((((xs (y4 + (4 : Int32)).toNatClampNeg)).toInt64) <<< (((32 : Int32)).toInt64 &&& 63)) ||| ((((xs (y4 + (5 : Int32)).toNatClampNeg)).toInt64) &&& (4294967295 : Int64))) (xs (y4 + (6 : Int32)).toNatClampNeg) (xs (y4 + (7 : Int32)).toNatClampNeg) (1 : Int32) (Or.inr rfl) ou P hU) k_La_add m_La_61 rfl hl.1 rfl (Nat.le_of_ble_eq_true rfl) ⟨rfl, rfl, ⟨Nat.le_of_ble_eq_true rfl, Nat.le_of_ble_eq_true rfl⟩, ⟨(by show _ ≤ 601024; omega), (by show _ ≤ 7293034; omega)⟩⟩ d_La_law_213 (fun x11 G12 H locs hw hI => ?_)
    obtain ⟨pm1, cnt1, fd1, tt1, xt1, li1, la1, P1, hC1, hU1, hfr1, hev⟩ := hw
    have hM := hM.fr hfr1 (apU hap hmu)
    have hU := hU1
    have hC := hC1
    obtain ⟨P, hP⟩ : ∃ z, z = P1 := ⟨_, rfl⟩
    rw [← hP] at hU
    refine lv_istore (lv' := [(5, .int x11), (4, .int y4), (3, .ref ou), (2, .ref o), (1, .ref (A 0 0)), (0, .ref b)]) hx hb d_La_law_216 hl (by decide) rfl (fun ls hl => ?_)
    refine lv_aload_n hx hb d_La_law_218 rfl (lv_at hl 3 rfl) ?_
    refine lv_aload_n hx hb d_La_law_219 rfl (lv_at hl 5 rfl) ?_
    refine lv_iload hx hb d_La_law_220 (lv_at hl 1 rfl) ?_
    refine lv_iconst (v := 1) hx hb d_La_law_222 (by decide) ?_
    refine lv_iadd hx hb d_La_law_223 ?_
    refine va_sld hx hb hX hbl hbA hI.2 (nb_in (nb_add hy 1) (by omega) (by omega)) d_La_law_224 ?_
    refine lv_aload_n hx hb d_La_law_225 rfl (lv_at hl 5 rfl) ?_
    refine lv_iload hx hb d_La_law_226 (lv_at hl 1 rfl) ?_
    refine lv_iconst (v := 2) hx hb d_La_law_228 (by decide) ?_
    refine lv_iadd hx hb d_La_law_229 ?_
    refine va_sld hx hb hX hbl hbA hI.2 (nb_in (nb_add hy 2) (by omega) (by omega)) d_La_law_230 ?_
    refine lv_i2l hx hb d_La_law_231 rfl ?_
    refine lv_bipush (v := 32) hx hb d_La_law_232 (by decide) ?_
    refine lv_lshl hx hb d_La_law_234 rfl ?_
    refine lv_aload_n hx hb d_La_law_235 rfl (lv_at hl 5 rfl) ?_
    refine lv_iload hx hb d_La_law_236 (lv_at hl 1 rfl) ?_
    refine lv_iconst (v := 3) hx hb d_La_law_238 (by decide) ?_
    refine lv_iadd hx hb d_La_law_239 ?_
    refine va_sld hx hb hX hbl hbA hI.2 (nb_in (nb_add hy 3) (by omega) (by omega)) d_La_law_240 ?_
    refine lv_i2l hx hb d_La_law_241 rfl ?_
    refine lv_ldc2 (v := 4294967295) hx hb M.2.2.2.1 (M.2.2.2.2 _ o_La_59) d_La_law_242 ?_
    refine lv_land hx hb d_La_law_245 ?_
    refine lv_lor hx hb d_La_law_246 ?_
    refine lv_aload_n hx hb d_La_law_247 rfl (lv_at hl 5 rfl) ?_
    refine lv_iload hx hb d_La_law_248 (lv_at hl 1 rfl) ?_
    refine lv_iconst (v := 4) hx hb d_La_law_250 (by decide) ?_
    refine lv_iadd hx hb d_La_law_251 ?_
    refine va_sld hx hb hX hbl hbA hI.2 (nb_in (nb_add hy 4) (by omega) (by omega)) d_La_law_252 ?_
    refine lv_i2l hx hb d_La_law_253 rfl ?_
    refine lv_bipush (v := 32) hx hb d_La_law_254 (by decide) ?_
    refine lv_lshl hx hb d_La_law_256 rfl ?_
    refine lv_aload_n hx hb d_La_law_257 rfl (lv_at hl 5 rfl) ?_
    refine lv_iload hx hb d_La_law_258 (lv_at hl 1 rfl) ?_
    refine lv_iconst (v := 5) hx hb d_La_law_260 (by decide) ?_
    refine lv_iadd hx hb d_La_law_261 ?_
    refine va_sld hx hb hX hbl hbA hI.2 (nb_in (nb_add hy 5) (by omega) (by omega)) d_La_law_262 ?_
    refine lv_i2l hx hb d_La_law_263 rfl ?_
    refine lv_ldc2 (v := 4294967295) hx hb M.2.2.2.1 (M.2.2.2.2 _ o_La_59) d_La_law_264 ?_
    refine lv_land hx hb d_La_law_267 ?_
    refine lv_lor hx hb d_La_law_268 ?_
    refine lv_aload_n hx hb d_La_law_269 rfl (lv_at hl 5 rfl) ?_
    refine lv_iload hx hb d_La_law_270 (lv_at hl 1 rfl) ?_
    refine lv_bipush (v := 6) hx hb d_La_law_272 (by decide) ?_
    refine lv_iadd hx hb d_La_law_274 ?_
    refine va_sld hx hb hX hbl hbA hI.2 (nb_in (nb_add hy 6) (by omega) (by omega)) d_La_law_275 ?_
    refine lv_aload_n hx hb d_La_law_276 rfl (lv_at hl 5 rfl) ?_
    refine lv_iload hx hb d_La_law_277 (lv_at hl 1 rfl) ?_
    refine lv_bipush (v := 7) hx hb d_La_law_279 (by decide) ?_
    refine lv_iadd hx hb d_La_law_281 ?_
    refine va_sld hx hb hX hbl hbA hI.2 (nb_in (nb_add hy 7) (by omega) (by omega)) d_La_law_282 ?_
    refine lv_aload_n hx hb d_La_law_283 rfl (lv_at hl 5 rfl) ?_
    refine lv_iload hx hb d_La_law_284 (lv_at hl 1 rfl) ?_
    refine lv_bipush (v := 8) hx hb d_La_law_286 (by decide) ?_
    refine lv_iadd hx hb d_La_law_288 ?_
    refine va_sld hx hb hX hbl hbA hI.2 (nb_in (nb_add hy 8) (by omega) (by omega)) d_La_law_289 ?_
    refine lv_if_eq (tgt := 297) hx hb d_La_law_290 (by decide) (fun q9 => absurd q9 hn8) (fun c_290 => ?_)
    refine lv_iconst (v := 1) hx hb d_La_law_293 (by decide) ?_
    refine lv_goto (tgt := 298) hx hb d_La_law_294 (by decide) ?_
    by_cases hbm : (xs (y4 + (1 : Int32)).toNatClampNeg) < 256 ∨ ¬ okW (xs (y4 + (7 : Int32)).toNatClampNeg)
    · have hIs := hI
      refine gw_Vi (As := [.int (xs (y4 + (1 : Int32)).toNatClampNeg), .long (((((xs (y4 + (2 : Int32)).toNatClampNeg)).toInt64) <<< (((32 : Int32)).toInt64 &&& 63)) ||| ((((xs (y4 + (3 : Int32)).toNatClampNeg)).toInt64) &&& (4294967295 : Int64))), .long (((((xs (y4 + (4 : Int32)).toNatClampNeg)).toInt64) <<< (((32 : Int32)).toInt64 &&& 63)) ||| ((((xs (y4 + (5 : Int32)).toNatClampNeg)).toInt64) &&& (4294967295 : Int64))), .int (xs (y4 + (6 : Int32)).toNatClampNeg), .int (xs (y4 + (7 : Int32)).toNatClampNeg), .int 1]) (rest := []) M hK hI (c_Mo_addb l o q B t0 f0 l0 g0 fu fn fx fi fl hM (xs (y4 + (1 : Int32)).toNatClampNeg) (((((xs (y4 + (2 : Int32)).toNatClampNeg)).toInt64) <<< (((32 : Int32)).toInt64 &&& 63)) ||| ((((xs (y4 + (3 : Int32)).toNatClampNeg)).toInt64) &&& (4294967295 : Int64))) (((((xs (y4 + (4 : Int32)).toNatClampNeg)).toInt64) <<< (((32 : Int32)).toInt64 &&& 63)) ||| ((((xs (y4 + (5 : Int32)).toNatClampNeg)).toInt64) &&& (4294967295 : Int64))) (xs (y4 + (6 : Int32)).toNatClampNeg) (xs (y4 + (7 : Int32)).toNatClampNeg) (1 : Int32) hbm) k_Mo_add m_La_66 hM.O (ci := 6) rfl (fun x hx => ⟨_, hx⟩) rfl hl.1 rfl (Nat.le_of_ble_eq_true rfl) ⟨rfl, rfl, ⟨Nat.le_of_ble_eq_true rfl, Nat.le_of_ble_eq_true rfl⟩, ⟨(by show _ ≤ 601024; omega), (by show _ ≤ 7293034; omega)⟩⟩ d_La_law_298 (fun x13 G14 H locs hw hI => ?_)
      obtain ⟨h_x13, hM1, hf1⟩ := hw
      have hC := hC.fr hf1 hap
      have hU := hf1 _ _ hU hmu
      have hM := hM1
      refine lv_istore (lv' := [(6, .int x13), (5, .int x11), (4, .int y4), (3, .ref ou), (2, .ref o), (1, .ref (A 0 0)), (0, .ref b)]) hx hb d_La_law_301 hl (by decide) rfl (fun ls hl => ?_)
      refine lv_goto (tgt := 905) hx hb d_La_law_303 (by decide) ?_
      exact kk _ _ _ _ pm1 cnt1 fd1 tt1 xt1 li1 la1 B 1 f0 l0 g0 fu fn fx fi fl P (Nat.le_succ _) hC hM hU (((tn_add hT hp0 hev).1 hbm).2) hI (lv_sub hl [2, 3, 4, 5, 6] rfl)
    · have hokm : ¬ (xs (y4 + (1 : Int32)).toNatClampNeg) < 256 ∧ okW (xs (y4 + (7 : Int32)).toNatClampNeg) := ⟨fun h => hbm (Or.inl h), Classical.not_not.mp (fun h => hbm (Or.inr h))⟩
      obtain ⟨s1, hfi⟩ := isFi.ex fu fn (xs (y4 + (1 : Int32)).toNatClampNeg)
      have hfi0 := hfi
      by_cases hs1 : s1 < 16
      · have hIs := hI
        refine gw_Vi (As := [.int (xs (y4 + (1 : Int32)).toNatClampNeg), .long (((((xs (y4 + (2 : Int32)).toNatClampNeg)).toInt64) <<< (((32 : Int32)).toInt64 &&& 63)) ||| ((((xs (y4 + (3 : Int32)).toNatClampNeg)).toInt64) &&& (4294967295 : Int64))), .long (((((xs (y4 + (4 : Int32)).toNatClampNeg)).toInt64) <<< (((32 : Int32)).toInt64 &&& 63)) ||| ((((xs (y4 + (5 : Int32)).toNatClampNeg)).toInt64) &&& (4294967295 : Int64))), .int (xs (y4 + (6 : Int32)).toNatClampNeg), .int (xs (y4 + (7 : Int32)).toNatClampNeg), .int 1]) (rest := []) M hK hI (c_Mo_addk l o q B t0 f0 l0 g0 fu fn fx fi fl hM (xs (y4 + (1 : Int32)).toNatClampNeg) (((((xs (y4 + (2 : Int32)).toNatClampNeg)).toInt64) <<< (((32 : Int32)).toInt64 &&& 63)) ||| ((((xs (y4 + (3 : Int32)).toNatClampNeg)).toInt64) &&& (4294967295 : Int64))) (((((xs (y4 + (4 : Int32)).toNatClampNeg)).toInt64) <<< (((32 : Int32)).toInt64 &&& 63)) ||| ((((xs (y4 + (5 : Int32)).toNatClampNeg)).toInt64) &&& (4294967295 : Int64))) (xs (y4 + (6 : Int32)).toNatClampNeg) (xs (y4 + (7 : Int32)).toNatClampNeg) (1 : Int32) hokm s1 hfi hs1) k_Mo_add m_La_66 hM.O (ci := 6) rfl (fun x hx => ⟨_, hx⟩) rfl hl.1 rfl (Nat.le_of_ble_eq_true rfl) ⟨rfl, rfl, ⟨Nat.le_of_ble_eq_true rfl, Nat.le_of_ble_eq_true rfl⟩, ⟨(by show _ ≤ 601024; omega), (by show _ ≤ 7293034; omega)⟩⟩ d_La_law_298 (fun x15 G16 H locs hw hI => ?_)
        obtain ⟨h_x15, hM1, hf1⟩ := hw
        have hC := hC.fr hf1 hap
        have hU := hf1 _ _ hU hmu
        have hM := hM1
        refine lv_istore (lv' := [(6, .int x15), (5, .int x11), (4, .int y4), (3, .ref ou), (2, .ref o), (1, .ref (A 0 0)), (0, .ref b)]) hx hb d_La_law_301 hl (by decide) rfl (fun ls hl => ?_)
        refine lv_goto (tgt := 905) hx hb d_La_law_303 (by decide) ?_
        exact kk _ _ _ _ pm1 cnt1 fd1 tt1 xt1 li1 la1 B 0 f0 l0 g0 fu fn fx fi fl P (Nat.le_succ _) hC hM hU ((((tn_add hT hp0 hev).2 hbm s1 hfi0).1 hs1).2) hI (lv_sub hl [2, 3, 4, 5, 6] rfl)
      · have hfi := hfi.none hs1
        by_cases hall : ∀ j, j < 16 → ¬ fu j = 0
        · have hIs := hI
          refine gw_Vi (As := [.int (xs (y4 + (1 : Int32)).toNatClampNeg), .long (((((xs (y4 + (2 : Int32)).toNatClampNeg)).toInt64) <<< (((32 : Int32)).toInt64 &&& 63)) ||| ((((xs (y4 + (3 : Int32)).toNatClampNeg)).toInt64) &&& (4294967295 : Int64))), .long (((((xs (y4 + (4 : Int32)).toNatClampNeg)).toInt64) <<< (((32 : Int32)).toInt64 &&& 63)) ||| ((((xs (y4 + (5 : Int32)).toNatClampNeg)).toInt64) &&& (4294967295 : Int64))), .int (xs (y4 + (6 : Int32)).toNatClampNeg), .int (xs (y4 + (7 : Int32)).toNatClampNeg), .int 1]) (rest := []) M hK hI (c_Mo_addo l o q B t0 f0 l0 g0 fu fn fx fi fl hM (xs (y4 + (1 : Int32)).toNatClampNeg) (((((xs (y4 + (2 : Int32)).toNatClampNeg)).toInt64) <<< (((32 : Int32)).toInt64 &&& 63)) ||| ((((xs (y4 + (3 : Int32)).toNatClampNeg)).toInt64) &&& (4294967295 : Int64))) (((((xs (y4 + (4 : Int32)).toNatClampNeg)).toInt64) <<< (((32 : Int32)).toInt64 &&& 63)) ||| ((((xs (y4 + (5 : Int32)).toNatClampNeg)).toInt64) &&& (4294967295 : Int64))) (xs (y4 + (6 : Int32)).toNatClampNeg) (xs (y4 + (7 : Int32)).toNatClampNeg) (1 : Int32) hokm hfi hall) k_Mo_add m_La_66 hM.O (ci := 6) rfl (fun x hx => ⟨_, hx⟩) rfl hl.1 rfl (Nat.le_of_ble_eq_true rfl) ⟨rfl, rfl, ⟨Nat.le_of_ble_eq_true rfl, Nat.le_of_ble_eq_true rfl⟩, ⟨(by show _ ≤ 601024; omega), (by show _ ≤ 7293034; omega)⟩⟩ d_La_law_298 (fun x17 G18 H locs hw hI => ?_)
          obtain ⟨h_x17, hM1, hf1⟩ := hw
          have hC := hC.fr hf1 hap
          have hU := hf1 _ _ hU hmu
          have hM := hM1
          refine lv_istore (lv' := [(6, .int x17), (5, .int x11), (4, .int y4), (3, .ref ou), (2, .ref o), (1, .ref (A 0 0)), (0, .ref b)]) hx hb d_La_law_301 hl (by decide) rfl (fun ls hl => ?_)
          refine lv_goto (tgt := 905) hx hb d_La_law_303 (by decide) ?_
          exact kk _ _ _ _ pm1 cnt1 fd1 tt1 xt1 li1 la1 B 0 f0 l0 g0 fu fn fx fi fl P (Nat.le_succ _) hC hM hU (((((tn_add hT hp0 hev).2 hbm s1 hfi0).2 hs1).1 hall).2) hI (lv_sub hl [2, 3, 4, 5, 6] rfl)
        · obtain ⟨sf, hsf, hz, hb4⟩ := ff_ex hall
          have hIs := hI
          refine gw_Vi (As := [.int (xs (y4 + (1 : Int32)).toNatClampNeg), .long (((((xs (y4 + (2 : Int32)).toNatClampNeg)).toInt64) <<< (((32 : Int32)).toInt64 &&& 63)) ||| ((((xs (y4 + (3 : Int32)).toNatClampNeg)).toInt64) &&& (4294967295 : Int64))), .long (((((xs (y4 + (4 : Int32)).toNatClampNeg)).toInt64) <<< (((32 : Int32)).toInt64 &&& 63)) ||| ((((xs (y4 + (5 : Int32)).toNatClampNeg)).toInt64) &&& (4294967295 : Int64))), .int (xs (y4 + (6 : Int32)).toNatClampNeg), .int (xs (y4 + (7 : Int32)).toNatClampNeg), .int 1]) (rest := []) M hK hI (c_Mo_add l o q B t0 f0 l0 g0 fu fn fx fi fl hM (xs (y4 + (1 : Int32)).toNatClampNeg) (((((xs (y4 + (2 : Int32)).toNatClampNeg)).toInt64) <<< (((32 : Int32)).toInt64 &&& 63)) ||| ((((xs (y4 + (3 : Int32)).toNatClampNeg)).toInt64) &&& (4294967295 : Int64))) (((((xs (y4 + (4 : Int32)).toNatClampNeg)).toInt64) <<< (((32 : Int32)).toInt64 &&& 63)) ||| ((((xs (y4 + (5 : Int32)).toNatClampNeg)).toInt64) &&& (4294967295 : Int64))) (xs (y4 + (6 : Int32)).toNatClampNeg) (xs (y4 + (7 : Int32)).toNatClampNeg) (1 : Int32) hokm hfi (Or.inr rfl) sf hsf hz hb4) k_Mo_add m_La_66 hM.O (ci := 6) rfl (fun x hx => ⟨_, hx⟩) rfl hl.1 rfl (Nat.le_of_ble_eq_true rfl) ⟨rfl, rfl, ⟨Nat.le_of_ble_eq_true rfl, Nat.le_of_ble_eq_true rfl⟩, ⟨(by show _ ≤ 601024; omega), (by show _ ≤ 7293034; omega)⟩⟩ d_La_law_298 (fun x19 G20 H locs hw hI => ?_)
          obtain ⟨h_x19, hM1, hf1⟩ := hw
          have hC := hC.fr hf1 hap
          have hU := hf1 _ _ hU hmu
          have hM := hM1
          refine lv_istore (lv' := [(6, .int x19), (5, .int x11), (4, .int y4), (3, .ref ou), (2, .ref o), (1, .ref (A 0 0)), (0, .ref b)]) hx hb d_La_law_301 hl (by decide) rfl (fun ls hl => ?_)
          refine lv_goto (tgt := 905) hx hb d_La_law_303 (by decide) ?_
          exact kk _ _ _ _ pm1 cnt1 fd1 tt1 xt1 li1 la1 B 0 f0 l0 g0 (upd fu sf 1) (upd fn sf (xs (y4 + (1 : Int32)).toNatClampNeg)) (upd fx sf (1 : Int32)) (upd fi sf 1000000000) (vp_updL fl sf 0) P (Nat.le_succ _) hC hM hU (((((tn_add hT hp0 hev).2 hbm s1 hfi0).2 hs1).2 sf hsf hz).2) hI (lv_sub hl [2, 3, 4, 5, 6] rfl)

set_option maxHeartbeats 4000000 in
set_option maxRecDepth 100000 in
theorem law_1 {p : Program} {l : Launch} {e : Env} {s : State} {m : MethodId} {below : List Frame} {meth : Method} {c : Code} {b L : Nat} {xs : Nat → Int32} (C0 : lw_At p s m meth c b L xs) (htr : l.stackTraces = false) {D : gw_D} (hK : gw_K D s.heap s) (hL : L ≤ 4608) {G : gw_G} {H : Heap} {locs : List Loc} {A : Nat → Nat → Nat} {o ou : Nat} {q : Nat → Nat} {P : Int64 → Prop} {pm : Nat → Nat} {cnt fd : Nat} {tt xt li : Nat → Int32} {la : Nat → Int64} {B : Nat} {t0 : Int32} {f0 l0 g0 : Nat} {fu fn fx fi : Nat → Int32} {fl : Nat → Int64} (hC : cls D G A pm cnt fd tt xt li la) (hM : mdl D G o q B t0 f0 l0 g0 fu fn fx fi fl) (hU : G ou = some (kL D 1 P)) (hap : ∀ k i, inA k i → ¬ mown o q (A k i)) (hmu : ¬ mown o q ou) (hT : tie pm cnt fd tt xt li la t0 f0 l0 fu fn fx fi fl) (hB6 : B ≤ 600) {y4 : Int32} {j9 c0 s0 : Nat} (hy : y4 = nI j9) (h9 : j9 + 9 ≤ L) (hc0 : c0 ≤ 1000) (hs0 : s0 ≤ 80000) (kk : lwK p l e s m below meth c b D A o q ou y4 c0 s0 B) (hI : gw_I D s.heap G s.heap H locs) (ls : Array Slot) (hl : lv_has ls 8 [(4, .int y4), (3, .ref ou), (2, .ref o), (1, .ref (A 0 0)), (0, .ref b)]) : W p l e room_1 s m #[Value.ref b] below meth c H locs c0 s0 (lw_Z below #[Value.ref b] s) (F0 m 306 ls []) := by
  obtain ⟨hx, hb, hr, hml, hown, hts, hX, hbl, hlocks, hgv⟩ := id C0
  have M : CallFix p m c b_La_law 8 s #[Value.ref b] tb R_La := ⟨hx, hb, hml, hown, fun w h => hts w (tb_in h)⟩
  have hbA : ¬ gw_A s.heap b := Nat.not_le.mpr hbl
  have hp0 := hC.p
  refine lv_aload_n hx hb d_La_law_306 rfl (lv_at hl 3 rfl) ?_
  refine lv_aload_n hx hb d_La_law_307 rfl (lv_at hl 4 rfl) ?_
  refine lv_iload hx hb d_La_law_308 (lv_at hl 0 rfl) ?_
  refine lv_iconst (v := 1) hx hb d_La_law_310 (by decide) ?_
  refine lv_iadd hx hb d_La_law_311 ?_
  refine va_sld hx hb hX hbl hbA hI.2 (nb_in (nb_add hy 1) (by omega) (by omega)) d_La_law_312 ?_
  obtain ⟨kp, hkp⟩ := isPl.ex (fun j => tt (pm j)) (xs (y4 + (1 : Int32)).toNatClampNeg) cnt
  by_cases hat : kp < cnt ∧ tt (pm kp) = (xs (y4 + (1 : Int32)).toNatClampNeg)
  · have hIs := hI
    refine gw_Vi (As := [.int (xs (y4 + (1 : Int32)).toNatClampNeg)]) (rest := []) M hK hI (c_Gp_drop l A pm cnt fd tt xt li la hC (xs (y4 + (1 : Int32)).toNatClampNeg) kp hkp hat) k_Gp_drop m_La_67 hC.O (ci := 5) rfl (fun x hx => ⟨_, hx⟩) rfl hl.1 rfl (Nat.le_of_ble_eq_true rfl) ⟨rfl, rfl, ⟨Nat.le_of_ble_eq_true rfl, Nat.le_of_ble_eq_true rfl⟩, ⟨(by show _ ≤ 601024; omega), (by show _ ≤ 7293034; omega)⟩⟩ d_La_law_313 (fun x1 G2 H locs hw hI => ?_)
    obtain ⟨h_x1, hC1, hfr1⟩ := hw
    have hM := hM.fr hfr1 (apO hap)
    have hU := hfr1 _ _ hU (hC.nown hIs hU gt_L (Or.inl rfl))
    have hC := hC1
    refine lv_pop hx hb d_La_law_316 rfl ?_
    refine lv_aload_n hx hb d_La_law_317 rfl (lv_at hl 2 rfl) ?_
    refine lv_aload_n hx hb d_La_law_318 rfl (lv_at hl 4 rfl) ?_
    refine lv_iload hx hb d_La_law_319 (lv_at hl 0 rfl) ?_
    refine lv_iconst (v := 1) hx hb d_La_law_321 (by decide) ?_
    refine lv_iadd hx hb d_La_law_322 ?_
    refine va_sld hx hb hX hbl hbA hI.2 (nb_in (nb_add hy 1) (by omega) (by omega)) d_La_law_323 ?_
    obtain ⟨s1, hfi⟩ := isFi.ex fu fn (xs (y4 + (1 : Int32)).toNatClampNeg)
    have hfi0 := hfi
    by_cases hs1 : s1 < 16
    · have hIs := hI
      refine gw_Vi (As := [.int (xs (y4 + (1 : Int32)).toNatClampNeg)]) (rest := []) M hK hI (c_Mo_dropf l o q B t0 f0 l0 g0 fu fn fx fi fl hM (xs (y4 + (1 : Int32)).toNatClampNeg) s1 hfi hs1) k_Mo_drop m_La_71 hM.O (ci := 6) rfl (fun x hx => ⟨_, hx⟩) rfl hl.1 rfl (Nat.le_of_ble_eq_true rfl) ⟨rfl, rfl, ⟨Nat.le_of_ble_eq_true rfl, Nat.le_of_ble_eq_true rfl⟩, ⟨(by show _ ≤ 601024; omega), (by show _ ≤ 7293034; omega)⟩⟩ d_La_law_324 (fun x3 G4 H locs hw hI => ?_)
      obtain ⟨h_x3, hM1, hf1⟩ := hw
      have hC := hC.fr hf1 hap
      have hU := hf1 _ _ hU hmu
      have hM := hM1
      refine lv_pop hx hb d_La_law_327 rfl ?_
      refine lv_goto (tgt := 905) hx hb d_La_law_328 (by decide) ?_
      refine W.widen (k := c0 + 1) (n := s0 + 6) (Nat.le_add_right _ _) (Nat.le_add_right _ _) ?_
      exact kk _ _ _ _ (fun j => pm (sf kp cnt j)) (cnt - 1) fd tt xt li la B 0 f0 l0 g0 (upd fu s1 0) fn fx fi fl P (Nat.le_succ _) hC hM hU (hT.drop hat hfi0 hs1) hI (lv_sub hl [0, 1, 2, 3, 4] rfl)
    · have hfi := hfi.none hs1
      have hIs := hI
      refine gw_Vi (As := [.int (xs (y4 + (1 : Int32)).toNatClampNeg)]) (rest := []) M hK hI (c_Mo_dropn l o q B t0 f0 l0 g0 fu fn fx fi fl hM (xs (y4 + (1 : Int32)).toNatClampNeg) hfi) k_Mo_drop m_La_71 hM.O (ci := 6) rfl (fun x hx => ⟨_, hx⟩) rfl hl.1 rfl (Nat.le_of_ble_eq_true rfl) ⟨rfl, rfl, ⟨Nat.le_of_ble_eq_true rfl, Nat.le_of_ble_eq_true rfl⟩, ⟨(by show _ ≤ 601024; omega), (by show _ ≤ 7293034; omega)⟩⟩ d_La_law_324 (fun x5 G6 H locs hw hI => ?_)
      obtain ⟨h_x5, hM1, hf1⟩ := hw
      have hC := hC.fr hf1 hap
      have hU := hf1 _ _ hU hmu
      have hM := hM1
      refine lv_pop hx hb d_La_law_327 rfl ?_
      refine lv_goto (tgt := 905) hx hb d_La_law_328 (by decide) ?_
      refine W.widen (k := c0 + 1) (n := s0 + 6) (Nat.le_add_right _ _) (Nat.le_add_right _ _) ?_
      exact kk _ _ _ _ (fun j => pm (sf kp cnt j)) (cnt - 1) fd tt xt li la B 0 f0 l0 g0 fu fn fx fi fl P (Nat.le_succ _) hC hM hU (absurd ((hT.kn hkp hfi0).mp hat) hs1) hI (lv_sub hl [0, 1, 2, 3, 4] rfl)
  · have hIs := hI
    refine gw_Vi (As := [.int (xs (y4 + (1 : Int32)).toNatClampNeg)]) (rest := []) M hK hI (c_Gp_dropf l A pm cnt fd tt xt li la hC (xs (y4 + (1 : Int32)).toNatClampNeg) kp hkp hat) k_Gp_drop m_La_67 hC.O (ci := 5) rfl (fun x hx => ⟨_, hx⟩) rfl hl.1 rfl (Nat.le_of_ble_eq_true rfl) ⟨rfl, rfl, ⟨Nat.le_of_ble_eq_true rfl, Nat.le_of_ble_eq_true rfl⟩, ⟨(by show _ ≤ 601024; omega), (by show _ ≤ 7293034; omega)⟩⟩ d_La_law_313 (fun x7 G8 H locs hw hI => ?_)
    obtain ⟨h_x7, hw⟩ := hw
    rw [hw] at hI
    refine lv_pop hx hb d_La_law_316 rfl ?_
    refine lv_aload_n hx hb d_La_law_317 rfl (lv_at hl 2 rfl) ?_
    refine lv_aload_n hx hb d_La_law_318 rfl (lv_at hl 4 rfl) ?_
    refine lv_iload hx hb d_La_law_319 (lv_at hl 0 rfl) ?_
    refine lv_iconst (v := 1) hx hb d_La_law_321 (by decide) ?_
    refine lv_iadd hx hb d_La_law_322 ?_
    refine va_sld hx hb hX hbl hbA hI.2 (nb_in (nb_add hy 1) (by omega) (by omega)) d_La_law_323 ?_
    obtain ⟨s1, hfi⟩ := isFi.ex fu fn (xs (y4 + (1 : Int32)).toNatClampNeg)
    have hfi0 := hfi
    by_cases hs1 : s1 < 16
    · have hIs := hI
      refine gw_Vi (As := [.int (xs (y4 + (1 : Int32)).toNatClampNeg)]) (rest := []) M hK hI (c_Mo_dropf l o q B t0 f0 l0 g0 fu fn fx fi fl hM (xs (y4 + (1 : Int32)).toNatClampNeg) s1 hfi hs1) k_Mo_drop m_La_71 hM.O (ci := 6) rfl (fun x hx => ⟨_, hx⟩) rfl hl.1 rfl (Nat.le_of_ble_eq_true rfl) ⟨rfl, rfl, ⟨Nat.le_of_ble_eq_true rfl, Nat.le_of_ble_eq_true rfl⟩, ⟨(by show _ ≤ 601024; omega), (by show _ ≤ 7293034; omega)⟩⟩ d_La_law_324 (fun x9 G10 H locs hw hI => ?_)
      obtain ⟨h_x9, hM1, hf1⟩ := hw
      have hC := hC.fr hf1 hap
      have hU := hf1 _ _ hU hmu
      have hM := hM1
      refine lv_pop hx hb d_La_law_327 rfl ?_
      refine lv_goto (tgt := 905) hx hb d_La_law_328 (by decide) ?_
      refine W.widen (k := c0 + 1) (n := s0 + 6) (Nat.le_add_right _ _) (Nat.le_add_right _ _) ?_
      exact kk _ _ _ _ pm cnt fd tt xt li la B 0 f0 l0 g0 (upd fu s1 0) fn fx fi fl P (Nat.le_succ _) hC hM hU (absurd ((hT.kn hkp hfi0).mpr hs1) hat) hI (lv_sub hl [0, 1, 2, 3, 4] rfl)
    · have hfi := hfi.none hs1
      have hIs := hI
      refine gw_Vi (As := [.int (xs (y4 + (1 : Int32)).toNatClampNeg)]) (rest := []) M hK hI (c_Mo_dropn l o q B t0 f0 l0 g0 fu fn fx fi fl hM (xs (y4 + (1 : Int32)).toNatClampNeg) hfi) k_Mo_drop m_La_71 hM.O (ci := 6) rfl (fun x hx => ⟨_, hx⟩) rfl hl.1 rfl (Nat.le_of_ble_eq_true rfl) ⟨rfl, rfl, ⟨Nat.le_of_ble_eq_true rfl, Nat.le_of_ble_eq_true rfl⟩, ⟨(by show _ ≤ 601024; omega), (by show _ ≤ 7293034; omega)⟩⟩ d_La_law_324 (fun x11 G12 H locs hw hI => ?_)
      obtain ⟨h_x11, hM1, hf1⟩ := hw
      have hC := hC.fr hf1 hap
      have hU := hf1 _ _ hU hmu
      have hM := hM1
      refine lv_pop hx hb d_La_law_327 rfl ?_
      refine lv_goto (tgt := 905) hx hb d_La_law_328 (by decide) ?_
      refine W.widen (k := c0 + 1) (n := s0 + 6) (Nat.le_add_right _ _) (Nat.le_add_right _ _) ?_
      exact kk _ _ _ _ pm cnt fd tt xt li la B 0 f0 l0 g0 fu fn fx fi fl P (Nat.le_succ _) hC hM hU hT hI (lv_sub hl [0, 1, 2, 3, 4] rfl)

set_option maxHeartbeats 4000000 in
set_option maxRecDepth 100000 in
theorem law_2 {p : Program} {l : Launch} {e : Env} {s : State} {m : MethodId} {below : List Frame} {meth : Method} {c : Code} {b L : Nat} {xs : Nat → Int32} (C0 : lw_At p s m meth c b L xs) (htr : l.stackTraces = false) {D : gw_D} (hK : gw_K D s.heap s) (hL : L ≤ 4608) {G : gw_G} {H : Heap} {locs : List Loc} {A : Nat → Nat → Nat} {o ou : Nat} {q : Nat → Nat} {P : Int64 → Prop} {pm : Nat → Nat} {cnt fd : Nat} {tt xt li : Nat → Int32} {la : Nat → Int64} {B : Nat} {t0 : Int32} {f0 l0 g0 : Nat} {fu fn fx fi : Nat → Int32} {fl : Nat → Int64} (hC : cls D G A pm cnt fd tt xt li la) (hM : mdl D G o q B t0 f0 l0 g0 fu fn fx fi fl) (hU : G ou = some (kL D 1 P)) (hap : ∀ k i, inA k i → ¬ mown o q (A k i)) (hmu : ¬ mown o q ou) (hT : tie pm cnt fd tt xt li la t0 f0 l0 fu fn fx fi fl) (hB6 : B ≤ 600) {y4 : Int32} {j9 c0 s0 : Nat} (hy : y4 = nI j9) (h9 : j9 + 9 ≤ L) (hc0 : c0 ≤ 1000) (hs0 : s0 ≤ 80000) (kk : lwK p l e s m below meth c b D A o q ou y4 c0 s0 B) (hI : gw_I D s.heap G s.heap H locs) (ls : Array Slot) (hl : lv_has ls 8 [(4, .int y4), (3, .ref ou), (2, .ref o), (1, .ref (A 0 0)), (0, .ref b)]) : W p l e room_1 s m #[Value.ref b] below meth c H locs c0 s0 (lw_Z below #[Value.ref b] s) (F0 m 331 ls []) := by
  obtain ⟨hx, hb, hr, hml, hown, hts, hX, hbl, hlocks, hgv⟩ := id C0
  have M : CallFix p m c b_La_law 8 s #[Value.ref b] tb R_La := ⟨hx, hb, hml, hown, fun w h => hts w (tb_in h)⟩
  have hbA : ¬ gw_A s.heap b := Nat.not_le.mpr hbl
  have hp0 := hC.p
  refine lv_aload_n hx hb d_La_law_331 rfl (lv_at hl 3 rfl) ?_
  refine lv_aload_n hx hb d_La_law_332 rfl (lv_at hl 4 rfl) ?_
  refine lv_iload hx hb d_La_law_333 (lv_at hl 0 rfl) ?_
  refine lv_iconst (v := 1) hx hb d_La_law_335 (by decide) ?_
  refine lv_iadd hx hb d_La_law_336 ?_
  refine va_sld hx hb hX hbl hbA hI.2 (nb_in (nb_add hy 1) (by omega) (by omega)) d_La_law_337 ?_
  refine lv_aload_n hx hb d_La_law_338 rfl (lv_at hl 4 rfl) ?_
  refine lv_iload hx hb d_La_law_339 (lv_at hl 0 rfl) ?_
  refine lv_iconst (v := 2) hx hb d_La_law_341 (by decide) ?_
  refine lv_iadd hx hb d_La_law_342 ?_
  refine va_sld hx hb hX hbl hbA hI.2 (nb_in (nb_add hy 2) (by omega) (by omega)) d_La_law_343 ?_
  refine lv_i2l hx hb d_La_law_344 rfl ?_
  refine lv_bipush (v := 32) hx hb d_La_law_345 (by decide) ?_
  refine lv_lshl hx hb d_La_law_347 rfl ?_
  refine lv_aload_n hx hb d_La_law_348 rfl (lv_at hl 4 rfl) ?_
  refine lv_iload hx hb d_La_law_349 (lv_at hl 0 rfl) ?_
  refine lv_iconst (v := 3) hx hb d_La_law_351 (by decide) ?_
  refine lv_iadd hx hb d_La_law_352 ?_
  refine va_sld hx hb hX hbl hbA hI.2 (nb_in (nb_add hy 3) (by omega) (by omega)) d_La_law_353 ?_
  refine lv_i2l hx hb d_La_law_354 rfl ?_
  refine lv_ldc2 (v := 4294967295) hx hb M.2.2.2.1 (M.2.2.2.2 _ o_La_59) d_La_law_355 ?_
  refine lv_land hx hb d_La_law_358 ?_
  refine lv_lor hx hb d_La_law_359 ?_
  have hIs := hI
  refine gw_Wi (As := [.ref (A 0 0), .int (xs (y4 + (1 : Int32)).toNatClampNeg), .long (((((xs (y4 + (2 : Int32)).toNatClampNeg)).toInt64) <<< (((32 : Int32)).toInt64 &&& 63)) ||| ((((xs (y4 + (3 : Int32)).toNatClampNeg)).toInt64) &&& (4294967295 : Int64)))]) (rest := []) M hK hI (c_La_hurry l htr A pm cnt fd tt xt li la hC (xs (y4 + (1 : Int32)).toNatClampNeg) (((((xs (y4 + (2 : Int32)).toNatClampNeg)).toInt64) <<< (((32 : Int32)).toInt64 &&& 63)) ||| ((((xs (y4 + (3 : Int32)).toNatClampNeg)).toInt64) &&& (4294967295 : Int64)))) k_La_hurry m_La_72 rfl hl.1 rfl (Nat.le_of_ble_eq_true rfl) ⟨rfl, rfl, ⟨Nat.le_of_ble_eq_true rfl, Nat.le_of_ble_eq_true rfl⟩, ⟨(by show _ ≤ 601024; omega), (by show _ ≤ 7293034; omega)⟩⟩ d_La_law_360 (fun x1 G2 H locs hw hI => ?_)
  obtain ⟨pm1, cnt1, fd1, tt1, xt1, li1, la1, hC1, hfr1, hev⟩ := hw
  have hM := hM.fr hfr1 (apO hap)
  have hU := hfr1 _ _ hU (hC.nown hIs hU gt_L (Or.inl rfl))
  have hC := hC1
  refine lv_istore (lv' := [(5, .int x1), (4, .int y4), (3, .ref ou), (2, .ref o), (1, .ref (A 0 0)), (0, .ref b)]) hx hb d_La_law_363 hl (by decide) rfl (fun ls hl => ?_)
  refine lv_aload_n hx hb d_La_law_365 rfl (lv_at hl 3 rfl) ?_
  refine lv_aload_n hx hb d_La_law_366 rfl (lv_at hl 5 rfl) ?_
  refine lv_iload hx hb d_La_law_367 (lv_at hl 1 rfl) ?_
  refine lv_iconst (v := 1) hx hb d_La_law_369 (by decide) ?_
  refine lv_iadd hx hb d_La_law_370 ?_
  refine va_sld hx hb hX hbl hbA hI.2 (nb_in (nb_add hy 1) (by omega) (by omega)) d_La_law_371 ?_
  refine lv_aload_n hx hb d_La_law_372 rfl (lv_at hl 5 rfl) ?_
  refine lv_iload hx hb d_La_law_373 (lv_at hl 1 rfl) ?_
  refine lv_iconst (v := 2) hx hb d_La_law_375 (by decide) ?_
  refine lv_iadd hx hb d_La_law_376 ?_
  refine va_sld hx hb hX hbl hbA hI.2 (nb_in (nb_add hy 2) (by omega) (by omega)) d_La_law_377 ?_
  refine lv_i2l hx hb d_La_law_378 rfl ?_
  refine lv_bipush (v := 32) hx hb d_La_law_379 (by decide) ?_
  refine lv_lshl hx hb d_La_law_381 rfl ?_
  refine lv_aload_n hx hb d_La_law_382 rfl (lv_at hl 5 rfl) ?_
  refine lv_iload hx hb d_La_law_383 (lv_at hl 1 rfl) ?_
  refine lv_iconst (v := 3) hx hb d_La_law_385 (by decide) ?_
  refine lv_iadd hx hb d_La_law_386 ?_
  refine va_sld hx hb hX hbl hbA hI.2 (nb_in (nb_add hy 3) (by omega) (by omega)) d_La_law_387 ?_
  refine lv_i2l hx hb d_La_law_388 rfl ?_
  refine lv_ldc2 (v := 4294967295) hx hb M.2.2.2.1 (M.2.2.2.2 _ o_La_59) d_La_law_389 ?_
  refine lv_land hx hb d_La_law_392 ?_
  refine lv_lor hx hb d_La_law_393 ?_
  obtain ⟨s1, hfi⟩ := isFi.ex fu fn (xs (y4 + (1 : Int32)).toNatClampNeg)
  have hfi0 := hfi
  by_cases hs1 : s1 < 16
  · have hIs := hI
    refine gw_Vv (As := [.int (xs (y4 + (1 : Int32)).toNatClampNeg), .long (((((xs (y4 + (2 : Int32)).toNatClampNeg)).toInt64) <<< (((32 : Int32)).toInt64 &&& 63)) ||| ((((xs (y4 + (3 : Int32)).toNatClampNeg)).toInt64) &&& (4294967295 : Int64)))]) (rest := []) M hK hI (c_Mo_hurryf l o q B t0 f0 l0 g0 fu fn fx fi fl hM (xs (y4 + (1 : Int32)).toNatClampNeg) s1 hfi hs1 (((((xs (y4 + (2 : Int32)).toNatClampNeg)).toInt64) <<< (((32 : Int32)).toInt64 &&& 63)) ||| ((((xs (y4 + (3 : Int32)).toNatClampNeg)).toInt64) &&& (4294967295 : Int64)))) k_Mo_hurry m_La_75 hM.O (ci := 6) rfl (fun x hx => ⟨_, hx⟩) rfl hl.1 rfl (Nat.le_of_ble_eq_true rfl) ⟨rfl, rfl, ⟨Nat.le_of_ble_eq_true rfl, Nat.le_of_ble_eq_true rfl⟩, ⟨(by show _ ≤ 601024; omega), (by show _ ≤ 7293034; omega)⟩⟩ d_La_law_394 (fun G4 H locs hw hI => ?_)
    obtain ⟨hw, hf1⟩ := hw
    rcases hw with ⟨hbm, hM1⟩ | ⟨hbm, hM1⟩
    · have hC := hC.fr hf1 hap
      have hU := hf1 _ _ hU hmu
      have hM := hM1
      refine lv_goto (tgt := 905) hx hb d_La_law_397 (by decide) ?_
      exact kk _ _ _ _ pm1 cnt1 fd1 tt1 xt1 li1 la1 B 2 f0 l0 g0 fu fn fx fi fl P (Nat.le_succ _) hC hM hU ((((tn_hur hT hp0 hfi0 hev).2 hs1).1 hbm).2) hI (lv_sub hl [1, 2, 3, 4, 5] rfl)
    · have hC := hC.fr hf1 hap
      have hU := hf1 _ _ hU hmu
      have hM := hM1
      refine lv_goto (tgt := 905) hx hb d_La_law_397 (by decide) ?_
      exact kk _ _ _ _ pm1 cnt1 fd1 tt1 xt1 li1 la1 B 0 f0 l0 g0 fu fn fx fi (vp_updL fl s1 (((((xs (y4 + (2 : Int32)).toNatClampNeg)).toInt64) <<< (((32 : Int32)).toInt64 &&& 63)) ||| ((((xs (y4 + (3 : Int32)).toNatClampNeg)).toInt64) &&& (4294967295 : Int64)))) P (Nat.le_succ _) hC hM hU ((((tn_hur hT hp0 hfi0 hev).2 hs1).2 hbm).2) hI (lv_sub hl [1, 2, 3, 4, 5] rfl)
  · have hfi := hfi.none hs1
    have hIs := hI
    refine gw_Vv (As := [.int (xs (y4 + (1 : Int32)).toNatClampNeg), .long (((((xs (y4 + (2 : Int32)).toNatClampNeg)).toInt64) <<< (((32 : Int32)).toInt64 &&& 63)) ||| ((((xs (y4 + (3 : Int32)).toNatClampNeg)).toInt64) &&& (4294967295 : Int64)))]) (rest := []) M hK hI (c_Mo_hurryn l o q B t0 f0 l0 g0 fu fn fx fi fl hM (xs (y4 + (1 : Int32)).toNatClampNeg) hfi (((((xs (y4 + (2 : Int32)).toNatClampNeg)).toInt64) <<< (((32 : Int32)).toInt64 &&& 63)) ||| ((((xs (y4 + (3 : Int32)).toNatClampNeg)).toInt64) &&& (4294967295 : Int64)))) k_Mo_hurry m_La_75 hM.O (ci := 6) rfl (fun x hx => ⟨_, hx⟩) rfl hl.1 rfl (Nat.le_of_ble_eq_true rfl) ⟨rfl, rfl, ⟨Nat.le_of_ble_eq_true rfl, Nat.le_of_ble_eq_true rfl⟩, ⟨(by show _ ≤ 601024; omega), (by show _ ≤ 7293034; omega)⟩⟩ d_La_law_394 (fun G6 H locs hw hI => ?_)
    obtain ⟨hM1, hf1⟩ := hw
    have hC := hC.fr hf1 hap
    have hU := hf1 _ _ hU hmu
    have hM := hM1
    refine lv_goto (tgt := 905) hx hb d_La_law_397 (by decide) ?_
    exact kk _ _ _ _ pm1 cnt1 fd1 tt1 xt1 li1 la1 B 1 f0 l0 g0 fu fn fx fi fl P (Nat.le_succ _) hC hM hU (((tn_hur hT hp0 hfi0 hev).1 hs1).2) hI (lv_sub hl [1, 2, 3, 4, 5] rfl)

set_option maxHeartbeats 4000000 in
set_option maxRecDepth 100000 in
theorem law_3 {p : Program} {l : Launch} {e : Env} {s : State} {m : MethodId} {below : List Frame} {meth : Method} {c : Code} {b L : Nat} {xs : Nat → Int32} (C0 : lw_At p s m meth c b L xs) (htr : l.stackTraces = false) {D : gw_D} (hK : gw_K D s.heap s) (hL : L ≤ 4608) {G : gw_G} {H : Heap} {locs : List Loc} {A : Nat → Nat → Nat} {o ou : Nat} {q : Nat → Nat} {P : Int64 → Prop} {pm : Nat → Nat} {cnt fd : Nat} {tt xt li : Nat → Int32} {la : Nat → Int64} {B : Nat} {t0 : Int32} {f0 l0 g0 : Nat} {fu fn fx fi : Nat → Int32} {fl : Nat → Int64} (hC : cls D G A pm cnt fd tt xt li la) (hM : mdl D G o q B t0 f0 l0 g0 fu fn fx fi fl) (hU : G ou = some (kL D 1 P)) (hap : ∀ k i, inA k i → ¬ mown o q (A k i)) (hmu : ¬ mown o q ou) (hT : tie pm cnt fd tt xt li la t0 f0 l0 fu fn fx fi fl) (hB6 : B ≤ 600) {y4 : Int32} {j9 c0 s0 : Nat} (hy : y4 = nI j9) (h9 : j9 + 9 ≤ L) (hc0 : c0 ≤ 1000) (hs0 : s0 ≤ 80000) (kk : lwK p l e s m below meth c b D A o q ou y4 c0 s0 B) (hI : gw_I D s.heap G s.heap H locs) (ls : Array Slot) (hl : lv_has ls 8 [(4, .int y4), (3, .ref ou), (2, .ref o), (1, .ref (A 0 0)), (0, .ref b)]) : W p l e room_1 s m #[Value.ref b] below meth c H locs c0 s0 (lw_Z below #[Value.ref b] s) (F0 m 400 ls []) := by
  obtain ⟨hx, hb, hr, hml, hown, hts, hX, hbl, hlocks, hgv⟩ := id C0
  have M : CallFix p m c b_La_law 8 s #[Value.ref b] tb R_La := ⟨hx, hb, hml, hown, fun w h => hts w (tb_in h)⟩
  have hbA : ¬ gw_A s.heap b := Nat.not_le.mpr hbl
  have hp0 := hC.p
  refine lv_aload_n hx hb d_La_law_400 rfl (lv_at hl 3 rfl) ?_
  refine lv_aload_n hx hb d_La_law_401 rfl (lv_at hl 4 rfl) ?_
  refine lv_iload hx hb d_La_law_402 (lv_at hl 0 rfl) ?_
  refine lv_iconst (v := 1) hx hb d_La_law_404 (by decide) ?_
  refine lv_iadd hx hb d_La_law_405 ?_
  refine va_sld hx hb hX hbl hbA hI.2 (nb_in (nb_add hy 1) (by omega) (by omega)) d_La_law_406 ?_
  refine lv_aload_n hx hb d_La_law_407 rfl (lv_at hl 4 rfl) ?_
  refine lv_iload hx hb d_La_law_408 (lv_at hl 0 rfl) ?_
  refine lv_iconst (v := 2) hx hb d_La_law_410 (by decide) ?_
  refine lv_iadd hx hb d_La_law_411 ?_
  refine va_sld hx hb hX hbl hbA hI.2 (nb_in (nb_add hy 2) (by omega) (by omega)) d_La_law_412 ?_
  refine lv_aload_n hx hb d_La_law_413 rfl (lv_at hl 1 rfl) ?_
  have hIs := hI
  refine gw_Wi (As := [.ref (A 0 0), .int (xs (y4 + (1 : Int32)).toNatClampNeg), .int (xs (y4 + (2 : Int32)).toNatClampNeg), .ref ou]) (rest := []) M hK hI (c_La_life l htr A pm cnt fd tt xt li la hC (xs (y4 + (1 : Int32)).toNatClampNeg) (xs (y4 + (2 : Int32)).toNatClampNeg) ou P hU) k_La_life m_La_76 rfl hl.1 rfl (Nat.le_of_ble_eq_true rfl) ⟨rfl, rfl, ⟨Nat.le_of_ble_eq_true rfl, Nat.le_of_ble_eq_true rfl⟩, ⟨(by show _ ≤ 601024; omega), (by show _ ≤ 7293034; omega)⟩⟩ d_La_law_414 (fun x1 G2 H locs hw hI => ?_)
  obtain ⟨pm1, cnt1, fd1, tt1, xt1, li1, la1, P1, hC1, hU1, hfr1, hev⟩ := hw
  have hM := hM.fr hfr1 (apU hap hmu)
  have hU := hU1
  have hC := hC1
  obtain ⟨P, hP⟩ : ∃ z, z = P1 := ⟨_, rfl⟩
  rw [← hP] at hU
  refine lv_istore (lv' := [(5, .int x1), (4, .int y4), (3, .ref ou), (2, .ref o), (1, .ref (A 0 0)), (0, .ref b)]) hx hb d_La_law_417 hl (by decide) rfl (fun ls hl => ?_)
  refine lv_aload_n hx hb d_La_law_419 rfl (lv_at hl 3 rfl) ?_
  refine lv_aload_n hx hb d_La_law_420 rfl (lv_at hl 5 rfl) ?_
  refine lv_iload hx hb d_La_law_421 (lv_at hl 1 rfl) ?_
  refine lv_iconst (v := 1) hx hb d_La_law_423 (by decide) ?_
  refine lv_iadd hx hb d_La_law_424 ?_
  refine va_sld hx hb hX hbl hbA hI.2 (nb_in (nb_add hy 1) (by omega) (by omega)) d_La_law_425 ?_
  refine lv_aload_n hx hb d_La_law_426 rfl (lv_at hl 5 rfl) ?_
  refine lv_iload hx hb d_La_law_427 (lv_at hl 1 rfl) ?_
  refine lv_iconst (v := 2) hx hb d_La_law_429 (by decide) ?_
  refine lv_iadd hx hb d_La_law_430 ?_
  refine va_sld hx hb hX hbl hbA hI.2 (nb_in (nb_add hy 2) (by omega) (by omega)) d_La_law_431 ?_
  obtain ⟨s1, hfi⟩ := isFi.ex fu fn (xs (y4 + (1 : Int32)).toNatClampNeg)
  have hfi0 := hfi
  by_cases hs1 : s1 < 16
  · have hIs := hI
    refine gw_Vi (As := [.int (xs (y4 + (1 : Int32)).toNatClampNeg), .int (xs (y4 + (2 : Int32)).toNatClampNeg)]) (rest := []) M hK hI (c_Mo_lifef l o q B t0 f0 l0 g0 fu fn fx fi fl hM (xs (y4 + (1 : Int32)).toNatClampNeg) s1 hfi hs1 (xs (y4 + (2 : Int32)).toNatClampNeg)) k_Mo_life m_La_79 hM.O (ci := 6) rfl (fun x hx => ⟨_, hx⟩) rfl hl.1 rfl (Nat.le_of_ble_eq_true rfl) ⟨rfl, rfl, ⟨Nat.le_of_ble_eq_true rfl, Nat.le_of_ble_eq_true rfl⟩, ⟨(by show _ ≤ 601024; omega), (by show _ ≤ 7293034; omega)⟩⟩ d_La_law_432 (fun x3 G4 H locs hw hI => ?_)
    obtain ⟨hw, hf1⟩ := hw
    rcases hw with ⟨hbm, hM1⟩ | ⟨hbm, h_x3, hM1⟩
    · have hC := hC.fr hf1 hap
      have hU := hf1 _ _ hU hmu
      have hM := hM1
      refine lv_istore (lv' := [(6, .int x3), (5, .int x1), (4, .int y4), (3, .ref ou), (2, .ref o), (1, .ref (A 0 0)), (0, .ref b)]) hx hb d_La_law_435 hl (by decide) rfl (fun ls hl => ?_)
      refine lv_goto (tgt := 905) hx hb d_La_law_437 (by decide) ?_
      exact kk _ _ _ _ pm1 cnt1 fd1 tt1 xt1 li1 la1 B 2 f0 l0 g0 fu fn fx fi fl P (Nat.le_succ _) hC hM hU ((((tn_life hT hp0 hfi0 hev).2 hs1).1 hbm).2) hI (lv_sub hl [2, 3, 4, 5, 6] rfl)
    · have hC := hC.fr hf1 hap
      have hU := hf1 _ _ hU hmu
      have hM := hM1
      refine lv_istore (lv' := [(6, .int x3), (5, .int x1), (4, .int y4), (3, .ref ou), (2, .ref o), (1, .ref (A 0 0)), (0, .ref b)]) hx hb d_La_law_435 hl (by decide) rfl (fun ls hl => ?_)
      refine lv_goto (tgt := 905) hx hb d_La_law_437 (by decide) ?_
      exact kk _ _ _ _ pm1 cnt1 fd1 tt1 xt1 li1 la1 B 0 f0 l0 g0 fu fn fx (upd fi s1 (xs (y4 + (2 : Int32)).toNatClampNeg)) fl P (Nat.le_succ _) hC hM hU ((((tn_life hT hp0 hfi0 hev).2 hs1).2 hbm).2) hI (lv_sub hl [2, 3, 4, 5, 6] rfl)
  · have hfi := hfi.none hs1
    have hIs := hI
    refine gw_Vi (As := [.int (xs (y4 + (1 : Int32)).toNatClampNeg), .int (xs (y4 + (2 : Int32)).toNatClampNeg)]) (rest := []) M hK hI (c_Mo_lifen l o q B t0 f0 l0 g0 fu fn fx fi fl hM (xs (y4 + (1 : Int32)).toNatClampNeg) hfi (xs (y4 + (2 : Int32)).toNatClampNeg)) k_Mo_life m_La_79 hM.O (ci := 6) rfl (fun x hx => ⟨_, hx⟩) rfl hl.1 rfl (Nat.le_of_ble_eq_true rfl) ⟨rfl, rfl, ⟨Nat.le_of_ble_eq_true rfl, Nat.le_of_ble_eq_true rfl⟩, ⟨(by show _ ≤ 601024; omega), (by show _ ≤ 7293034; omega)⟩⟩ d_La_law_432 (fun x5 G6 H locs hw hI => ?_)
    obtain ⟨hM1, hf1⟩ := hw
    have hC := hC.fr hf1 hap
    have hU := hf1 _ _ hU hmu
    have hM := hM1
    refine lv_istore (lv' := [(6, .int x5), (5, .int x1), (4, .int y4), (3, .ref ou), (2, .ref o), (1, .ref (A 0 0)), (0, .ref b)]) hx hb d_La_law_435 hl (by decide) rfl (fun ls hl => ?_)
    refine lv_goto (tgt := 905) hx hb d_La_law_437 (by decide) ?_
    exact kk _ _ _ _ pm1 cnt1 fd1 tt1 xt1 li1 la1 B 1 f0 l0 g0 fu fn fx fi fl P (Nat.le_succ _) hC hM hU (((tn_life hT hp0 hfi0 hev).1 hs1).2) hI (lv_sub hl [2, 3, 4, 5, 6] rfl)

set_option maxHeartbeats 4000000 in
set_option maxRecDepth 100000 in
theorem law_4 {p : Program} {l : Launch} {e : Env} {s : State} {m : MethodId} {below : List Frame} {meth : Method} {c : Code} {b L : Nat} {xs : Nat → Int32} (C0 : lw_At p s m meth c b L xs) (htr : l.stackTraces = false) {D : gw_D} (hK : gw_K D s.heap s) (hL : L ≤ 4608) {G : gw_G} {H : Heap} {locs : List Loc} {A : Nat → Nat → Nat} {o ou : Nat} {q : Nat → Nat} {P : Int64 → Prop} {pm : Nat → Nat} {cnt fd : Nat} {tt xt li : Nat → Int32} {la : Nat → Int64} {B : Nat} {t0 : Int32} {f0 l0 g0 : Nat} {fu fn fx fi : Nat → Int32} {fl : Nat → Int64} (hC : cls D G A pm cnt fd tt xt li la) (hM : mdl D G o q B t0 f0 l0 g0 fu fn fx fi fl) (hU : G ou = some (kL D 1 P)) (hap : ∀ k i, inA k i → ¬ mown o q (A k i)) (hmu : ¬ mown o q ou) (hT : tie pm cnt fd tt xt li la t0 f0 l0 fu fn fx fi fl) (hB6 : B ≤ 600) {y4 : Int32} {j9 c0 s0 : Nat} (hy : y4 = nI j9) (h9 : j9 + 9 ≤ L) (hc0 : c0 ≤ 1000) (hs0 : s0 ≤ 80000) (kk : lwK p l e s m below meth c b D A o q ou y4 c0 s0 B) (hI : gw_I D s.heap G s.heap H locs) (ls : Array Slot) (hl : lv_has ls 8 [(4, .int y4), (3, .ref ou), (2, .ref o), (1, .ref (A 0 0)), (0, .ref b)]) : W p l e room_1 s m #[Value.ref b] below meth c H locs c0 s0 (lw_Z below #[Value.ref b] s) (F0 m 440 ls []) := by
  obtain ⟨hx, hb, hr, hml, hown, hts, hX, hbl, hlocks, hgv⟩ := id C0
  have M : CallFix p m c b_La_law 8 s #[Value.ref b] tb R_La := ⟨hx, hb, hml, hown, fun w h => hts w (tb_in h)⟩
  have hbA : ¬ gw_A s.heap b := Nat.not_le.mpr hbl
  have hp0 := hC.p
  refine lv_aload_n hx hb d_La_law_440 rfl (lv_at hl 3 rfl) ?_
  refine lv_aload_n hx hb d_La_law_441 rfl (lv_at hl 4 rfl) ?_
  refine lv_iload hx hb d_La_law_442 (lv_at hl 0 rfl) ?_
  refine lv_iconst (v := 1) hx hb d_La_law_444 (by decide) ?_
  refine lv_iadd hx hb d_La_law_445 ?_
  refine va_sld hx hb hX hbl hbA hI.2 (nb_in (nb_add hy 1) (by omega) (by omega)) d_La_law_446 ?_
  refine lv_aload_n hx hb d_La_law_447 rfl (lv_at hl 4 rfl) ?_
  refine lv_iload hx hb d_La_law_448 (lv_at hl 0 rfl) ?_
  refine lv_iconst (v := 2) hx hb d_La_law_450 (by decide) ?_
  refine lv_iadd hx hb d_La_law_451 ?_
  refine va_sld hx hb hX hbl hbA hI.2 (nb_in (nb_add hy 2) (by omega) (by omega)) d_La_law_452 ?_
  refine lv_i2l hx hb d_La_law_453 rfl ?_
  refine lv_bipush (v := 32) hx hb d_La_law_454 (by decide) ?_
  refine lv_lshl hx hb d_La_law_456 rfl ?_
  refine lv_aload_n hx hb d_La_law_457 rfl (lv_at hl 4 rfl) ?_
  refine lv_iload hx hb d_La_law_458 (lv_at hl 0 rfl) ?_
  refine lv_iconst (v := 3) hx hb d_La_law_460 (by decide) ?_
  refine lv_iadd hx hb d_La_law_461 ?_
  refine va_sld hx hb hX hbl hbA hI.2 (nb_in (nb_add hy 3) (by omega) (by omega)) d_La_law_462 ?_
  refine lv_i2l hx hb d_La_law_463 rfl ?_
  refine lv_ldc2 (v := 4294967295) hx hb M.2.2.2.1 (M.2.2.2.2 _ o_La_59) d_La_law_464 ?_
  refine lv_land hx hb d_La_law_467 ?_
  refine lv_lor hx hb d_La_law_468 ?_
  refine lv_aload_n hx hb d_La_law_469 rfl (lv_at hl 1 rfl) ?_
  have hIs := hI
  refine gw_Wi (As := [.ref (A 0 0), .int (xs (y4 + (1 : Int32)).toNatClampNeg), .long (((((xs (y4 + (2 : Int32)).toNatClampNeg)).toInt64) <<< (((32 : Int32)).toInt64 &&& 63)) ||| ((((xs (y4 + (3 : Int32)).toNatClampNeg)).toInt64) &&& (4294967295 : Int64))), .ref ou]) (rest := []) M hK hI (c_La_feed l htr A pm cnt fd tt xt li la hC (xs (y4 + (1 : Int32)).toNatClampNeg) (((((xs (y4 + (2 : Int32)).toNatClampNeg)).toInt64) <<< (((32 : Int32)).toInt64 &&& 63)) ||| ((((xs (y4 + (3 : Int32)).toNatClampNeg)).toInt64) &&& (4294967295 : Int64))) ou P hU) k_La_feed m_La_80 rfl hl.1 rfl (Nat.le_of_ble_eq_true rfl) ⟨rfl, rfl, ⟨Nat.le_of_ble_eq_true rfl, Nat.le_of_ble_eq_true rfl⟩, ⟨(by show _ ≤ 601024; omega), (by show _ ≤ 7293034; omega)⟩⟩ d_La_law_470 (fun x1 G2 H locs hw hI => ?_)
  obtain ⟨pm1, cnt1, fd1, tt1, xt1, li1, la1, P1, hC1, hU1, hfr1, hev⟩ := hw
  have hM := hM.fr hfr1 (apU hap hmu)
  have hU := hU1
  have hC := hC1
  obtain ⟨P, hP⟩ : ∃ z, z = P1 := ⟨_, rfl⟩
  rw [← hP] at hU
  refine lv_istore (lv' := [(5, .int x1), (4, .int y4), (3, .ref ou), (2, .ref o), (1, .ref (A 0 0)), (0, .ref b)]) hx hb d_La_law_473 hl (by decide) rfl (fun ls hl => ?_)
  refine lv_aload_n hx hb d_La_law_475 rfl (lv_at hl 3 rfl) ?_
  refine lv_aload_n hx hb d_La_law_476 rfl (lv_at hl 5 rfl) ?_
  refine lv_iload hx hb d_La_law_477 (lv_at hl 1 rfl) ?_
  refine lv_iconst (v := 1) hx hb d_La_law_479 (by decide) ?_
  refine lv_iadd hx hb d_La_law_480 ?_
  refine va_sld hx hb hX hbl hbA hI.2 (nb_in (nb_add hy 1) (by omega) (by omega)) d_La_law_481 ?_
  refine lv_aload_n hx hb d_La_law_482 rfl (lv_at hl 5 rfl) ?_
  refine lv_iload hx hb d_La_law_483 (lv_at hl 1 rfl) ?_
  refine lv_iconst (v := 2) hx hb d_La_law_485 (by decide) ?_
  refine lv_iadd hx hb d_La_law_486 ?_
  refine va_sld hx hb hX hbl hbA hI.2 (nb_in (nb_add hy 2) (by omega) (by omega)) d_La_law_487 ?_
  refine lv_i2l hx hb d_La_law_488 rfl ?_
  refine lv_bipush (v := 32) hx hb d_La_law_489 (by decide) ?_
  refine lv_lshl hx hb d_La_law_491 rfl ?_
  refine lv_aload_n hx hb d_La_law_492 rfl (lv_at hl 5 rfl) ?_
  refine lv_iload hx hb d_La_law_493 (lv_at hl 1 rfl) ?_
  refine lv_iconst (v := 3) hx hb d_La_law_495 (by decide) ?_
  refine lv_iadd hx hb d_La_law_496 ?_
  refine va_sld hx hb hX hbl hbA hI.2 (nb_in (nb_add hy 3) (by omega) (by omega)) d_La_law_497 ?_
  refine lv_i2l hx hb d_La_law_498 rfl ?_
  refine lv_ldc2 (v := 4294967295) hx hb M.2.2.2.1 (M.2.2.2.2 _ o_La_59) d_La_law_499 ?_
  refine lv_land hx hb d_La_law_502 ?_
  refine lv_lor hx hb d_La_law_503 ?_
  by_cases hbm : (xs (y4 + (1 : Int32)).toNatClampNeg) < 1 ∨ ¬ (xs (y4 + (1 : Int32)).toNatClampNeg) ≤ 8
  · have hIs := hI
    refine gw_Vi (As := [.int (xs (y4 + (1 : Int32)).toNatClampNeg), .long (((((xs (y4 + (2 : Int32)).toNatClampNeg)).toInt64) <<< (((32 : Int32)).toInt64 &&& 63)) ||| ((((xs (y4 + (3 : Int32)).toNatClampNeg)).toInt64) &&& (4294967295 : Int64)))]) (rest := []) M hK hI (c_Mo_feedb l o q B t0 f0 l0 g0 fu fn fx fi fl hM (xs (y4 + (1 : Int32)).toNatClampNeg) (((((xs (y4 + (2 : Int32)).toNatClampNeg)).toInt64) <<< (((32 : Int32)).toInt64 &&& 63)) ||| ((((xs (y4 + (3 : Int32)).toNatClampNeg)).toInt64) &&& (4294967295 : Int64))) hbm) k_Mo_feed m_La_83 hM.O (ci := 6) rfl (fun x hx => ⟨_, hx⟩) rfl hl.1 rfl (Nat.le_of_ble_eq_true rfl) ⟨rfl, rfl, ⟨Nat.le_of_ble_eq_true rfl, Nat.le_of_ble_eq_true rfl⟩, ⟨(by show _ ≤ 601024; omega), (by show _ ≤ 7293034; omega)⟩⟩ d_La_law_504 (fun x3 G4 H locs hw hI => ?_)
    obtain ⟨hM1, hf1⟩ := hw
    have hC := hC.fr hf1 hap
    have hU := hf1 _ _ hU hmu
    have hM := hM1
    refine lv_istore (lv' := [(6, .int x3), (5, .int x1), (4, .int y4), (3, .ref ou), (2, .ref o), (1, .ref (A 0 0)), (0, .ref b)]) hx hb d_La_law_507 hl (by decide) rfl (fun ls hl => ?_)
    refine lv_goto (tgt := 905) hx hb d_La_law_509 (by decide) ?_
    exact kk _ _ _ _ pm1 cnt1 fd1 tt1 xt1 li1 la1 B 1 f0 l0 g0 fu fn fx fi fl P (Nat.le_succ _) hC hM hU (tn_feed hT hev ((hev.2.2.2.2.2.2.elim (fun h => h.2.2.trans hT.1) (fun h => absurd hbm h.1)))) hI (lv_sub hl [2, 3, 4, 5, 6] rfl)
  · obtain ⟨nm, hnm1, hnm8, hnm⟩ := n1_of (fun h => hbm (Or.inl h)) (Classical.not_not.mp (fun h => hbm (Or.inr h)))
    have hIs := hI
    refine gw_Vi (As := [.int (xs (y4 + (1 : Int32)).toNatClampNeg), .long (((((xs (y4 + (2 : Int32)).toNatClampNeg)).toInt64) <<< (((32 : Int32)).toInt64 &&& 63)) ||| ((((xs (y4 + (3 : Int32)).toNatClampNeg)).toInt64) &&& (4294967295 : Int64)))]) (rest := []) M hK hI (c_Mo_feed l o q B t0 f0 l0 g0 fu fn fx fi fl hM (xs (y4 + (1 : Int32)).toNatClampNeg) (((((xs (y4 + (2 : Int32)).toNatClampNeg)).toInt64) <<< (((32 : Int32)).toInt64 &&& 63)) ||| ((((xs (y4 + (3 : Int32)).toNatClampNeg)).toInt64) &&& (4294967295 : Int64))) nm hnm hnm1 hnm8) k_Mo_feed m_La_83 hM.O (ci := 6) rfl (fun x hx => ⟨_, hx⟩) rfl hl.1 rfl (Nat.le_of_ble_eq_true rfl) ⟨rfl, rfl, ⟨Nat.le_of_ble_eq_true rfl, Nat.le_of_ble_eq_true rfl⟩, ⟨(by show _ ≤ 601024; omega), (by show _ ≤ 7293034; omega)⟩⟩ d_La_law_504 (fun x5 G6 H locs hw hI => ?_)
    obtain ⟨hw, hf1⟩ := hw
    rcases hw with ⟨h200, h_x5, hM1⟩ | ⟨h200, h_x5, hM1⟩
    · have hC := hC.fr hf1 hap
      have hU := hf1 _ _ hU hmu
      have hM := hM1
      refine lv_istore (lv' := [(6, .int x5), (5, .int x1), (4, .int y4), (3, .ref ou), (2, .ref o), (1, .ref (A 0 0)), (0, .ref b)]) hx hb d_La_law_507 hl (by decide) rfl (fun ls hl => ?_)
      refine lv_goto (tgt := 905) hx hb d_La_law_509 (by decide) ?_
      exact kk _ _ _ _ pm1 cnt1 fd1 tt1 xt1 li1 la1 B 0 f0 l0 g0 fu fn fx fi fl P (Nat.le_succ _) hC hM hU (tn_feed hT hev (((t_feed hT.1 hnm hnm8 (hev.2.2.2.2.2.2.resolve_left (fun h => hbm h.1)).2.2).1 h200).1)) hI (lv_sub hl [2, 3, 4, 5, 6] rfl)
    · have hC := hC.fr hf1 hap
      have hU := hf1 _ _ hU hmu
      have hM := hM1
      refine lv_istore (lv' := [(6, .int x5), (5, .int x1), (4, .int y4), (3, .ref ou), (2, .ref o), (1, .ref (A 0 0)), (0, .ref b)]) hx hb d_La_law_507 hl (by decide) rfl (fun ls hl => ?_)
      refine lv_goto (tgt := 905) hx hb d_La_law_509 (by decide) ?_
      exact kk _ _ _ _ pm1 cnt1 fd1 tt1 xt1 li1 la1 B 0 (f0 + nm) l0 g0 fu fn fx fi fl P (Nat.le_succ _) hC hM hU (tn_feed hT hev (((t_feed hT.1 hnm hnm8 (hev.2.2.2.2.2.2.resolve_left (fun h => hbm h.1)).2.2).2 h200).1)) hI (lv_sub hl [2, 3, 4, 5, 6] rfl)

set_option maxHeartbeats 4000000 in
set_option maxRecDepth 100000 in
theorem law_5 {p : Program} {l : Launch} {e : Env} {s : State} {m : MethodId} {below : List Frame} {meth : Method} {c : Code} {b L : Nat} {xs : Nat → Int32} (C0 : lw_At p s m meth c b L xs) (htr : l.stackTraces = false) {D : gw_D} (hK : gw_K D s.heap s) (hL : L ≤ 4608) {G : gw_G} {H : Heap} {locs : List Loc} {A : Nat → Nat → Nat} {o ou : Nat} {q : Nat → Nat} {P : Int64 → Prop} {pm : Nat → Nat} {cnt fd : Nat} {tt xt li : Nat → Int32} {la : Nat → Int64} {B : Nat} {t0 : Int32} {f0 l0 g0 : Nat} {fu fn fx fi : Nat → Int32} {fl : Nat → Int64} (hC : cls D G A pm cnt fd tt xt li la) (hM : mdl D G o q B t0 f0 l0 g0 fu fn fx fi fl) (hU : G ou = some (kL D 1 P)) (hap : ∀ k i, inA k i → ¬ mown o q (A k i)) (hmu : ¬ mown o q ou) (hT : tie pm cnt fd tt xt li la t0 f0 l0 fu fn fx fi fl) (hB6 : B ≤ 600) {y4 : Int32} {j9 c0 s0 : Nat} (hy : y4 = nI j9) (h9 : j9 + 9 ≤ L) (hc0 : c0 ≤ 1000) (hs0 : s0 ≤ 80000) (kk : lwK p l e s m below meth c b D A o q ou y4 c0 s0 B) (hI : gw_I D s.heap G s.heap H locs) (ls : Array Slot) (hl : lv_has ls 8 [(4, .int y4), (3, .ref ou), (2, .ref o), (1, .ref (A 0 0)), (0, .ref b)]) : W p l e room_1 s m #[Value.ref b] below meth c H locs c0 s0 (lw_Z below #[Value.ref b] s) (F0 m 512 ls []) := by
  obtain ⟨hx, hb, hr, hml, hown, hts, hX, hbl, hlocks, hgv⟩ := id C0
  have M : CallFix p m c b_La_law 8 s #[Value.ref b] tb R_La := ⟨hx, hb, hml, hown, fun w h => hts w (tb_in h)⟩
  have hbA : ¬ gw_A s.heap b := Nat.not_le.mpr hbl
  have hp0 := hC.p
  refine lv_aload_n hx hb d_La_law_512 rfl (lv_at hl 3 rfl) ?_
  have hIs := hI
  refine gw_Vi (As := []) (rest := []) M hK hI (c_Gp_wipe l A pm cnt fd tt xt li la hC) k_Gp_wipe m_La_84 hC.O (ci := 5) rfl (fun x hx => ⟨_, hx⟩) rfl hl.1 rfl (Nat.le_of_ble_eq_true rfl) ⟨rfl, rfl, ⟨Nat.le_of_ble_eq_true rfl, Nat.le_of_ble_eq_true rfl⟩, ⟨(by show _ ≤ 601024; omega), (by show _ ≤ 7293034; omega)⟩⟩ d_La_law_513 (fun x1 G2 H locs hw hI => ?_)
  obtain ⟨h_x1, hw⟩ := hw
  have hfr1 : gw_fr (own A) G G2 := by rw [hw]; exact gw_fr.up (Or.inr (Or.inr (Or.inl rfl)))
  have hM := hM.fr hfr1 (apO hap)
  have hU := hfr1 _ _ hU (hC.nown hIs hU gt_L (Or.inl rfl))
  have hC : cls D G2 A pm cnt 0 tt xt li la := by rw [hw]; exact hC.fedup hIs (Nat.zero_le _)
  refine lv_pop hx hb d_La_law_516 rfl ?_
  refine lv_aload_n hx hb d_La_law_517 rfl (lv_at hl 2 rfl) ?_
  have hIs := hI
  refine gw_Vi (As := []) (rest := []) M hK hI (c_Mo_wipe l o q B t0 f0 l0 g0 fu fn fx fi fl hM ) k_Mo_wipe m_La_88 hM.O (ci := 6) rfl (fun x hx => ⟨_, hx⟩) rfl hl.1 rfl (Nat.le_of_ble_eq_true rfl) ⟨rfl, rfl, ⟨Nat.le_of_ble_eq_true rfl, Nat.le_of_ble_eq_true rfl⟩, ⟨(by show _ ≤ 601024; omega), (by show _ ≤ 7293034; omega)⟩⟩ d_La_law_518 (fun x3 G4 H locs hw hI => ?_)
  obtain ⟨h_x3, hM1, hf1⟩ := hw
  have hC := hC.fr hf1 hap
  have hU := hf1 _ _ hU hmu
  have hM := hM1
  refine lv_pop hx hb d_La_law_521 rfl ?_
  refine lv_goto (tgt := 905) hx hb d_La_law_522 (by decide) ?_
  refine W.widen (k := c0 + 1) (n := s0 + 6) (Nat.le_add_right _ _) (Nat.le_add_right _ _) ?_
  exact kk _ _ _ _ pm cnt 0 tt xt li la B 0 0 l0 g0 fu fn fx fi fl P (Nat.le_succ _) hC hM hU (hT.fdw rfl) hI (lv_sub hl [0, 1, 2, 3, 4] rfl)

set_option maxHeartbeats 4000000 in
set_option maxRecDepth 100000 in
theorem law_6 {p : Program} {l : Launch} {e : Env} {s : State} {m : MethodId} {below : List Frame} {meth : Method} {c : Code} {b L : Nat} {xs : Nat → Int32} (C0 : lw_At p s m meth c b L xs) (htr : l.stackTraces = false) {D : gw_D} (hK : gw_K D s.heap s) (hL : L ≤ 4608) {G : gw_G} {H : Heap} {locs : List Loc} {A : Nat → Nat → Nat} {o ou : Nat} {q : Nat → Nat} {P : Int64 → Prop} {pm : Nat → Nat} {cnt fd : Nat} {tt xt li : Nat → Int32} {la : Nat → Int64} {B : Nat} {t0 : Int32} {f0 l0 g0 : Nat} {fu fn fx fi : Nat → Int32} {fl : Nat → Int64} (hC : cls D G A pm cnt fd tt xt li la) (hM : mdl D G o q B t0 f0 l0 g0 fu fn fx fi fl) (hU : G ou = some (kL D 1 P)) (hap : ∀ k i, inA k i → ¬ mown o q (A k i)) (hmu : ¬ mown o q ou) (hT : tie pm cnt fd tt xt li la t0 f0 l0 fu fn fx fi fl) (hB6 : B ≤ 600) {y4 : Int32} {j9 c0 s0 : Nat} (hy : y4 = nI j9) (h9 : j9 + 9 ≤ L) (hc0 : c0 ≤ 1000) (hs0 : s0 ≤ 80000) (kk : lwK p l e s m below meth c b D A o q ou y4 c0 s0 B) (hI : gw_I D s.heap G s.heap H locs) (ls : Array Slot) (hl : lv_has ls 8 [(4, .int y4), (3, .ref ou), (2, .ref o), (1, .ref (A 0 0)), (0, .ref b)]) : W p l e room_1 s m #[Value.ref b] below meth c H locs c0 s0 (lw_Z below #[Value.ref b] s) (F0 m 525 ls []) := by
  obtain ⟨hx, hb, hr, hml, hown, hts, hX, hbl, hlocks, hgv⟩ := id C0
  have M : CallFix p m c b_La_law 8 s #[Value.ref b] tb R_La := ⟨hx, hb, hml, hown, fun w h => hts w (tb_in h)⟩
  have hbA : ¬ gw_A s.heap b := Nat.not_le.mpr hbl
  have hp0 := hC.p
  refine lv_aload_n hx hb d_La_law_525 rfl (lv_at hl 3 rfl) ?_
  refine lv_aload_n hx hb d_La_law_526 rfl (lv_at hl 4 rfl) ?_
  refine lv_iload hx hb d_La_law_527 (lv_at hl 0 rfl) ?_
  refine lv_iconst (v := 1) hx hb d_La_law_529 (by decide) ?_
  refine lv_iadd hx hb d_La_law_530 ?_
  refine va_sld hx hb hX hbl hbA hI.2 (nb_in (nb_add hy 1) (by omega) (by omega)) d_La_law_531 ?_
  refine lv_aload_n hx hb d_La_law_532 rfl (lv_at hl 4 rfl) ?_
  refine lv_iload hx hb d_La_law_533 (lv_at hl 0 rfl) ?_
  refine lv_iconst (v := 2) hx hb d_La_law_535 (by decide) ?_
  refine lv_iadd hx hb d_La_law_536 ?_
  refine va_sld hx hb hX hbl hbA hI.2 (nb_in (nb_add hy 2) (by omega) (by omega)) d_La_law_537 ?_
  refine lv_aload_n hx hb d_La_law_538 rfl (lv_at hl 1 rfl) ?_
  have hIs := hI
  refine gw_Wi (As := [.ref (A 0 0), .int (xs (y4 + (1 : Int32)).toNatClampNeg), .int (xs (y4 + (2 : Int32)).toNatClampNeg), .ref ou]) (rest := []) M hK hI (c_La_sealX l htr A pm cnt fd tt xt li la hC (xs (y4 + (1 : Int32)).toNatClampNeg) (xs (y4 + (2 : Int32)).toNatClampNeg) ou P hU) k_La_seal m_La_89 rfl hl.1 rfl (Nat.le_of_ble_eq_true rfl) ⟨rfl, rfl, ⟨Nat.le_of_ble_eq_true rfl, Nat.le_of_ble_eq_true rfl⟩, ⟨(by show _ ≤ 601024; omega), (by show _ ≤ 7293034; omega)⟩⟩ d_La_law_539 (fun x1 G2 H locs hw hI => ?_)
  obtain ⟨pm1, cnt1, fd1, tt1, xt1, li1, la1, P1, hC1, hU1, hfr1, hev⟩ := hw
  have hM := hM.fr hfr1 (apU hap hmu)
  have hU := hU1
  have hC := hC1
  obtain ⟨P, hP⟩ : ∃ z, z = P1 := ⟨_, rfl⟩
  rw [← hP] at hU
  refine lv_istore (lv' := [(5, .int x1), (4, .int y4), (3, .ref ou), (2, .ref o), (1, .ref (A 0 0)), (0, .ref b)]) hx hb d_La_law_542 hl (by decide) rfl (fun ls hl => ?_)
  refine lv_aload_n hx hb d_La_law_544 rfl (lv_at hl 3 rfl) ?_
  refine lv_aload_n hx hb d_La_law_545 rfl (lv_at hl 5 rfl) ?_
  refine lv_iload hx hb d_La_law_546 (lv_at hl 1 rfl) ?_
  refine lv_iconst (v := 1) hx hb d_La_law_548 (by decide) ?_
  refine lv_iadd hx hb d_La_law_549 ?_
  refine va_sld hx hb hX hbl hbA hI.2 (nb_in (nb_add hy 1) (by omega) (by omega)) d_La_law_550 ?_
  refine lv_aload_n hx hb d_La_law_551 rfl (lv_at hl 5 rfl) ?_
  refine lv_iload hx hb d_La_law_552 (lv_at hl 1 rfl) ?_
  refine lv_iconst (v := 2) hx hb d_La_law_554 (by decide) ?_
  refine lv_iadd hx hb d_La_law_555 ?_
  refine va_sld hx hb hX hbl hbA hI.2 (nb_in (nb_add hy 2) (by omega) (by omega)) d_La_law_556 ?_
  obtain ⟨s1, hfi⟩ := isFi.ex fu fn (xs (y4 + (1 : Int32)).toNatClampNeg)
  have hfi0 := hfi
  by_cases hs1 : s1 < 16
  · by_cases hbm : okB (xs (y4 + (2 : Int32)).toNatClampNeg)
    · have hIs := hI
      refine gw_Vi (As := [.int (xs (y4 + (1 : Int32)).toNatClampNeg), .int (xs (y4 + (2 : Int32)).toNatClampNeg)]) (rest := []) M hK hI (c_Mo_sealf l o q B t0 f0 l0 g0 fu fn fx fi fl hM (xs (y4 + (1 : Int32)).toNatClampNeg) s1 hfi hs1 (xs (y4 + (2 : Int32)).toNatClampNeg) hbm) k_Mo_seal m_La_91 hM.O (ci := 6) rfl (fun x hx => ⟨_, hx⟩) rfl hl.1 rfl (Nat.le_of_ble_eq_true rfl) ⟨rfl, rfl, ⟨Nat.le_of_ble_eq_true rfl, Nat.le_of_ble_eq_true rfl⟩, ⟨(by show _ ≤ 601024; omega), (by show _ ≤ 7293034; omega)⟩⟩ d_La_law_557 (fun x3 G4 H locs hw hI => ?_)
      obtain ⟨hw, hf1⟩ := hw
      rcases hw with ⟨hcm, h_x3, hM1⟩ | ⟨hcm, h_x3, hM1⟩
      · have hC := hC.fr hf1 hap
        have hU := hf1 _ _ hU hmu
        have hM := hM1
        refine lv_istore (lv' := [(6, .int x3), (5, .int x1), (4, .int y4), (3, .ref ou), (2, .ref o), (1, .ref (A 0 0)), (0, .ref b)]) hx hb d_La_law_560 hl (by decide) rfl (fun ls hl => ?_)
        refine lv_aload_n hx hb d_La_law_562 rfl (lv_at hl 4 rfl) ?_
        refine gw_Vi (As := []) (rest := []) M hK hI (c_Mo_thrown l o q B 0 f0 l0 g0 fu fn fx fi fl hM) k_Mo_thrown m_La_92 hM.O (ci := 6) rfl (fun x hx => ⟨_, hx⟩) rfl hl.1 rfl (Nat.le_of_ble_eq_true rfl) ⟨rfl, rfl, ⟨Nat.le_of_ble_eq_true rfl, Nat.le_of_ble_eq_true rfl⟩, ⟨(by show _ ≤ 601024; omega), (by show _ ≤ 7293034; omega)⟩⟩ d_La_law_563 (fun x5 G9 H locs hw hI => ?_)
        obtain ⟨h_x5, hw9⟩ := hw
        rw [hw9] at hI
        subst h_x5
        refine lv_iload hx hb d_La_law_566 (lv_at hl 1 rfl) ?_
        refine lv_icmp_eq (tgt := 573) hx hb d_La_law_568 (by decide) (fun c_568 => ?_) (fun q9 => absurd ((((tn_seal hT hp0 hfi0 hev.1).2 hs1).2 hbm).1).symm q9)
        refine lv_iload hx hb d_La_law_573 (lv_at hl 1 rfl) ?_
        refine lv_if_ne (tgt := 590) hx hb d_La_law_575 (by decide) (fun q9 => absurd ((((tn_seal hT hp0 hfi0 hev.1).2 hs1).2 hbm).1) q9) (fun c_575 => ?_)
        refine lv_aload_n hx hb d_La_law_578 rfl (lv_at hl 3 rfl) ?_
        refine lv_iconst (v := 0) hx hb d_La_law_579 (by decide) ?_
        refine gw_lald M hK hI hU (vp_in_nI (n := 0) (by decide) (by decide)) d_La_law_580 (fun x6 h_x6 => ?_)
        refine lv_iload hx hb d_La_law_581 (lv_at hl 0 rfl) ?_
        refine lv_i2l hx hb d_La_law_583 rfl ?_
        refine W.lcmp hx hb d_La_law_584 ?_
        refine lv_if_eq (tgt := 590) hx hb d_La_law_585 (by decide) (fun c_585 => ?_) (fun q9 => absurd ((lg_cmp_eq _ _).mpr (((tn_sealo hT hfi0 hs1 hbm hev.2).1 hcm _ (hP ▸ h_x6)).trans (congrArg Int32.toInt64 h_x3.symm))) q9)
        refine lv_goto (tgt := 905) hx hb d_La_law_590 (by decide) ?_
        exact kk _ _ _ _ pm1 cnt1 fd1 tt1 xt1 li1 la1 B 0 f0 l0 g0 fu fn fx fi fl P (Nat.le_succ _) hC hM hU ((((tn_seal hT hp0 hfi0 hev.1).2 hs1).2 hbm).2.1 hcm) hI (lv_sub hl [2, 3, 4, 5, 6] rfl)
      · have hC := hC.fr hf1 hap
        have hU := hf1 _ _ hU hmu
        have hM := hM1
        refine lv_istore (lv' := [(6, .int x3), (5, .int x1), (4, .int y4), (3, .ref ou), (2, .ref o), (1, .ref (A 0 0)), (0, .ref b)]) hx hb d_La_law_560 hl (by decide) rfl (fun ls hl => ?_)
        refine lv_aload_n hx hb d_La_law_562 rfl (lv_at hl 4 rfl) ?_
        refine gw_Vi (As := []) (rest := []) M hK hI (c_Mo_thrown l o q B 0 f0 (f0 + 34 + (4 - (f0 + 2) % 4) % 4) g0 fu fn fx (upd fi s1 (fi s1 - nI f0)) (vp_updL fl s1 (fl s1 + 1)) hM) k_Mo_thrown m_La_92 hM.O (ci := 6) rfl (fun x hx => ⟨_, hx⟩) rfl hl.1 rfl (Nat.le_of_ble_eq_true rfl) ⟨rfl, rfl, ⟨Nat.le_of_ble_eq_true rfl, Nat.le_of_ble_eq_true rfl⟩, ⟨(by show _ ≤ 601024; omega), (by show _ ≤ 7293034; omega)⟩⟩ d_La_law_563 (fun x7 G9 H locs hw hI => ?_)
        obtain ⟨h_x7, hw9⟩ := hw
        rw [hw9] at hI
        subst h_x7
        refine lv_iload hx hb d_La_law_566 (lv_at hl 1 rfl) ?_
        refine lv_icmp_eq (tgt := 573) hx hb d_La_law_568 (by decide) (fun c_568 => ?_) (fun q9 => absurd ((((tn_seal hT hp0 hfi0 hev.1).2 hs1).2 hbm).1).symm q9)
        refine lv_iload hx hb d_La_law_573 (lv_at hl 1 rfl) ?_
        refine lv_if_ne (tgt := 590) hx hb d_La_law_575 (by decide) (fun q9 => absurd ((((tn_seal hT hp0 hfi0 hev.1).2 hs1).2 hbm).1) q9) (fun c_575 => ?_)
        refine lv_aload_n hx hb d_La_law_578 rfl (lv_at hl 3 rfl) ?_
        refine lv_iconst (v := 0) hx hb d_La_law_579 (by decide) ?_
        refine gw_lald M hK hI hU (vp_in_nI (n := 0) (by decide) (by decide)) d_La_law_580 (fun x8 h_x8 => ?_)
        refine lv_iload hx hb d_La_law_581 (lv_at hl 0 rfl) ?_
        refine lv_i2l hx hb d_La_law_583 rfl ?_
        refine W.lcmp hx hb d_La_law_584 ?_
        refine lv_if_eq (tgt := 590) hx hb d_La_law_585 (by decide) (fun c_585 => ?_) (fun q9 => absurd ((lg_cmp_eq _ _).mpr (((tn_sealo hT hfi0 hs1 hbm hev.2).2 hcm _ (hP ▸ h_x8)).trans (congrArg Int32.toInt64 h_x3.symm))) q9)
        refine lv_goto (tgt := 905) hx hb d_La_law_590 (by decide) ?_
        exact kk _ _ _ _ pm1 cnt1 fd1 tt1 xt1 li1 la1 B 0 f0 (f0 + 34 + (4 - (f0 + 2) % 4) % 4) g0 fu fn fx (upd fi s1 (fi s1 - nI f0)) (vp_updL fl s1 (fl s1 + 1)) P (Nat.le_succ _) hC hM hU ((((tn_seal hT hp0 hfi0 hev.1).2 hs1).2 hbm).2.2 hcm) hI (lv_sub hl [2, 3, 4, 5, 6] rfl)
    · have hIs := hI
      refine gw_Vi (As := [.int (xs (y4 + (1 : Int32)).toNatClampNeg), .int (xs (y4 + (2 : Int32)).toNatClampNeg)]) (rest := []) M hK hI (c_Mo_sealb l o q B t0 f0 l0 g0 fu fn fx fi fl hM (xs (y4 + (1 : Int32)).toNatClampNeg) s1 hfi hs1 (xs (y4 + (2 : Int32)).toNatClampNeg) hbm) k_Mo_seal m_La_91 hM.O (ci := 6) rfl (fun x hx => ⟨_, hx⟩) rfl hl.1 rfl (Nat.le_of_ble_eq_true rfl) ⟨rfl, rfl, ⟨Nat.le_of_ble_eq_true rfl, Nat.le_of_ble_eq_true rfl⟩, ⟨(by show _ ≤ 601024; omega), (by show _ ≤ 7293034; omega)⟩⟩ d_La_law_557 (fun x9 G10 H locs hw hI => ?_)
      obtain ⟨hM1, hf1⟩ := hw
      have hC := hC.fr hf1 hap
      have hU := hf1 _ _ hU hmu
      have hM := hM1
      refine lv_istore (lv' := [(6, .int x9), (5, .int x1), (4, .int y4), (3, .ref ou), (2, .ref o), (1, .ref (A 0 0)), (0, .ref b)]) hx hb d_La_law_560 hl (by decide) rfl (fun ls hl => ?_)
      refine lv_aload_n hx hb d_La_law_562 rfl (lv_at hl 4 rfl) ?_
      refine gw_Vi (As := []) (rest := []) M hK hI (c_Mo_thrown l o q B 2 f0 l0 g0 fu fn fx fi fl hM) k_Mo_thrown m_La_92 hM.O (ci := 6) rfl (fun x hx => ⟨_, hx⟩) rfl hl.1 rfl (Nat.le_of_ble_eq_true rfl) ⟨rfl, rfl, ⟨Nat.le_of_ble_eq_true rfl, Nat.le_of_ble_eq_true rfl⟩, ⟨(by show _ ≤ 601024; omega), (by show _ ≤ 7293034; omega)⟩⟩ d_La_law_563 (fun x11 G9 H locs hw hI => ?_)
      obtain ⟨h_x11, hw9⟩ := hw
      rw [hw9] at hI
      subst h_x11
      refine lv_iload hx hb d_La_law_566 (lv_at hl 1 rfl) ?_
      refine lv_icmp_eq (tgt := 573) hx hb d_La_law_568 (by decide) (fun c_568 => ?_) (fun q9 => absurd ((((tn_seal hT hp0 hfi0 hev.1).2 hs1).1 hbm).1).symm q9)
      refine lv_iload hx hb d_La_law_573 (lv_at hl 1 rfl) ?_
      refine lv_if_ne (tgt := 590) hx hb d_La_law_575 (by decide) (fun c_575 => ?_) (fun q9 => absurd q9 (by rw [((((tn_seal hT hp0 hfi0 hev.1).2 hs1).1 hbm).1)]; decide))
      refine lv_goto (tgt := 905) hx hb d_La_law_590 (by decide) ?_
      exact kk _ _ _ _ pm1 cnt1 fd1 tt1 xt1 li1 la1 B 2 f0 l0 g0 fu fn fx fi fl P (Nat.le_succ _) hC hM hU ((((tn_seal hT hp0 hfi0 hev.1).2 hs1).1 hbm).2) hI (lv_sub hl [2, 3, 4, 5, 6] rfl)
  · have hfi := hfi.none hs1
    have hIs := hI
    refine gw_Vi (As := [.int (xs (y4 + (1 : Int32)).toNatClampNeg), .int (xs (y4 + (2 : Int32)).toNatClampNeg)]) (rest := []) M hK hI (c_Mo_sealn l o q B t0 f0 l0 g0 fu fn fx fi fl hM (xs (y4 + (1 : Int32)).toNatClampNeg) hfi (xs (y4 + (2 : Int32)).toNatClampNeg)) k_Mo_seal m_La_91 hM.O (ci := 6) rfl (fun x hx => ⟨_, hx⟩) rfl hl.1 rfl (Nat.le_of_ble_eq_true rfl) ⟨rfl, rfl, ⟨Nat.le_of_ble_eq_true rfl, Nat.le_of_ble_eq_true rfl⟩, ⟨(by show _ ≤ 601024; omega), (by show _ ≤ 7293034; omega)⟩⟩ d_La_law_557 (fun x12 G13 H locs hw hI => ?_)
    obtain ⟨hM1, hf1⟩ := hw
    have hC := hC.fr hf1 hap
    have hU := hf1 _ _ hU hmu
    have hM := hM1
    refine lv_istore (lv' := [(6, .int x12), (5, .int x1), (4, .int y4), (3, .ref ou), (2, .ref o), (1, .ref (A 0 0)), (0, .ref b)]) hx hb d_La_law_560 hl (by decide) rfl (fun ls hl => ?_)
    refine lv_aload_n hx hb d_La_law_562 rfl (lv_at hl 4 rfl) ?_
    refine gw_Vi (As := []) (rest := []) M hK hI (c_Mo_thrown l o q B 1 f0 l0 g0 fu fn fx fi fl hM) k_Mo_thrown m_La_92 hM.O (ci := 6) rfl (fun x hx => ⟨_, hx⟩) rfl hl.1 rfl (Nat.le_of_ble_eq_true rfl) ⟨rfl, rfl, ⟨Nat.le_of_ble_eq_true rfl, Nat.le_of_ble_eq_true rfl⟩, ⟨(by show _ ≤ 601024; omega), (by show _ ≤ 7293034; omega)⟩⟩ d_La_law_563 (fun x14 G9 H locs hw hI => ?_)
    obtain ⟨h_x14, hw9⟩ := hw
    rw [hw9] at hI
    subst h_x14
    refine lv_iload hx hb d_La_law_566 (lv_at hl 1 rfl) ?_
    refine lv_icmp_eq (tgt := 573) hx hb d_La_law_568 (by decide) (fun c_568 => ?_) (fun q9 => absurd (((tn_seal hT hp0 hfi0 hev.1).1 hs1).1).symm q9)
    refine lv_iload hx hb d_La_law_573 (lv_at hl 1 rfl) ?_
    refine lv_if_ne (tgt := 590) hx hb d_La_law_575 (by decide) (fun c_575 => ?_) (fun q9 => absurd q9 (by rw [(((tn_seal hT hp0 hfi0 hev.1).1 hs1).1)]; decide))
    refine lv_goto (tgt := 905) hx hb d_La_law_590 (by decide) ?_
    exact kk _ _ _ _ pm1 cnt1 fd1 tt1 xt1 li1 la1 B 1 f0 l0 g0 fu fn fx fi fl P (Nat.le_succ _) hC hM hU (((tn_seal hT hp0 hfi0 hev.1).1 hs1).2) hI (lv_sub hl [2, 3, 4, 5, 6] rfl)

set_option maxHeartbeats 4000000 in
set_option maxRecDepth 100000 in
theorem law_7 {p : Program} {l : Launch} {e : Env} {s : State} {m : MethodId} {below : List Frame} {meth : Method} {c : Code} {b L : Nat} {xs : Nat → Int32} (C0 : lw_At p s m meth c b L xs) (htr : l.stackTraces = false) {D : gw_D} (hK : gw_K D s.heap s) (hL : L ≤ 4608) {G : gw_G} {H : Heap} {locs : List Loc} {A : Nat → Nat → Nat} {o ou : Nat} {q : Nat → Nat} {P : Int64 → Prop} {pm : Nat → Nat} {cnt fd : Nat} {tt xt li : Nat → Int32} {la : Nat → Int64} {B : Nat} {t0 : Int32} {f0 l0 g0 : Nat} {fu fn fx fi : Nat → Int32} {fl : Nat → Int64} (hC : cls D G A pm cnt fd tt xt li la) (hM : mdl D G o q B t0 f0 l0 g0 fu fn fx fi fl) (hU : G ou = some (kL D 1 P)) (hap : ∀ k i, inA k i → ¬ mown o q (A k i)) (hmu : ¬ mown o q ou) (hT : tie pm cnt fd tt xt li la t0 f0 l0 fu fn fx fi fl) (hB6 : B ≤ 600) {y4 : Int32} {j9 c0 s0 : Nat} (hy : y4 = nI j9) (h9 : j9 + 9 ≤ L) (hc0 : c0 ≤ 1000) (hs0 : s0 ≤ 80000) (kk : lwK p l e s m below meth c b D A o q ou y4 c0 s0 B) (hI : gw_I D s.heap G s.heap H locs) (ls : Array Slot) (hl : lv_has ls 8 [(4, .int y4), (3, .ref ou), (2, .ref o), (1, .ref (A 0 0)), (0, .ref b)]) : W p l e room_1 s m #[Value.ref b] below meth c H locs c0 s0 (lw_Z below #[Value.ref b] s) (F0 m 593 ls []) := by
  obtain ⟨hx, hb, hr, hml, hown, hts, hX, hbl, hlocks, hgv⟩ := id C0
  have M : CallFix p m c b_La_law 8 s #[Value.ref b] tb R_La := ⟨hx, hb, hml, hown, fun w h => hts w (tb_in h)⟩
  have hbA : ¬ gw_A s.heap b := Nat.not_le.mpr hbl
  have hp0 := hC.p
  refine lv_aload_n hx hb d_La_law_593 rfl (lv_at hl 3 rfl) ?_
  have hIs := hI
  refine gw_Vi (As := []) (rest := []) M hK hI (c_Gp_size l A pm cnt fd tt xt li la hC ) k_Gp_size m_La_95 hC.O (ci := 5) rfl (fun x hx => ⟨_, hx⟩) rfl hl.1 rfl (Nat.le_of_ble_eq_true rfl) ⟨rfl, rfl, ⟨Nat.le_of_ble_eq_true rfl, Nat.le_of_ble_eq_true rfl⟩, ⟨(by show _ ≤ 601024; omega), (by show _ ≤ 7293034; omega)⟩⟩ d_La_law_594 (fun x1 G2 H locs hw hI => ?_)
  rw [hw] at hI
  refine lv_pop hx hb d_La_law_597 rfl ?_
  refine lv_aload_n hx hb d_La_law_598 rfl (lv_at hl 2 rfl) ?_
  have hIs := hI
  refine gw_Vi (As := []) (rest := []) M hK hI (c_Mo_size l o q B t0 f0 l0 g0 fu fn fx fi fl hM ) k_Mo_size m_La_98 hM.O (ci := 6) rfl (fun x hx => ⟨_, hx⟩) rfl hl.1 rfl (Nat.le_of_ble_eq_true rfl) ⟨rfl, rfl, ⟨Nat.le_of_ble_eq_true rfl, Nat.le_of_ble_eq_true rfl⟩, ⟨(by show _ ≤ 601024; omega), (by show _ ≤ 7293034; omega)⟩⟩ d_La_law_599 (fun x3 G4 H locs hw hI => ?_)
  obtain ⟨h_x3, hM1, hf1⟩ := hw
  have hC := hC.fr hf1 hap
  have hU := hf1 _ _ hU hmu
  have hM := hM1
  refine lv_pop hx hb d_La_law_602 rfl ?_
  refine lv_goto (tgt := 905) hx hb d_La_law_603 (by decide) ?_
  refine W.widen (k := c0 + 1) (n := s0 + 6) (Nat.le_add_right _ _) (Nat.le_add_right _ _) ?_
  exact kk _ _ _ _ pm cnt fd tt xt li la B 0 f0 l0 g0 fu fn fx fi fl P (Nat.le_succ _) hC hM hU hT hI (lv_sub hl [0, 1, 2, 3, 4] rfl)

set_option maxHeartbeats 4000000 in
set_option maxRecDepth 100000 in
theorem law_8 {p : Program} {l : Launch} {e : Env} {s : State} {m : MethodId} {below : List Frame} {meth : Method} {c : Code} {b L : Nat} {xs : Nat → Int32} (C0 : lw_At p s m meth c b L xs) (htr : l.stackTraces = false) {D : gw_D} (hK : gw_K D s.heap s) (hL : L ≤ 4608) {G : gw_G} {H : Heap} {locs : List Loc} {A : Nat → Nat → Nat} {o ou : Nat} {q : Nat → Nat} {P : Int64 → Prop} {pm : Nat → Nat} {cnt fd : Nat} {tt xt li : Nat → Int32} {la : Nat → Int64} {B : Nat} {t0 : Int32} {f0 l0 g0 : Nat} {fu fn fx fi : Nat → Int32} {fl : Nat → Int64} (hC : cls D G A pm cnt fd tt xt li la) (hM : mdl D G o q B t0 f0 l0 g0 fu fn fx fi fl) (hU : G ou = some (kL D 1 P)) (hap : ∀ k i, inA k i → ¬ mown o q (A k i)) (hmu : ¬ mown o q ou) (hT : tie pm cnt fd tt xt li la t0 f0 l0 fu fn fx fi fl) (hB6 : B ≤ 600) {y4 : Int32} {j9 c0 s0 : Nat} (hy : y4 = nI j9) (h9 : j9 + 9 ≤ L) (hc0 : c0 ≤ 1000) (hs0 : s0 ≤ 80000) (kk : lwK p l e s m below meth c b D A o q ou y4 c0 s0 B) (hI : gw_I D s.heap G s.heap H locs) (ls : Array Slot) (hl : lv_has ls 8 [(4, .int y4), (3, .ref ou), (2, .ref o), (1, .ref (A 0 0)), (0, .ref b)]) : W p l e room_1 s m #[Value.ref b] below meth c H locs c0 s0 (lw_Z below #[Value.ref b] s) (F0 m 606 ls []) := by
  obtain ⟨hx, hb, hr, hml, hown, hts, hX, hbl, hlocks, hgv⟩ := id C0
  have M : CallFix p m c b_La_law 8 s #[Value.ref b] tb R_La := ⟨hx, hb, hml, hown, fun w h => hts w (tb_in h)⟩
  have hbA : ¬ gw_A s.heap b := Nat.not_le.mpr hbl
  have hp0 := hC.p
  refine lv_aload_n hx hb d_La_law_606 rfl (lv_at hl 3 rfl) ?_
  refine lv_aload_n hx hb d_La_law_607 rfl (lv_at hl 4 rfl) ?_
  refine lv_iload hx hb d_La_law_608 (lv_at hl 0 rfl) ?_
  refine lv_iconst (v := 1) hx hb d_La_law_610 (by decide) ?_
  refine lv_iadd hx hb d_La_law_611 ?_
  refine va_sld hx hb hX hbl hbA hI.2 (nb_in (nb_add hy 1) (by omega) (by omega)) d_La_law_612 ?_
  have hIs := hI
  refine gw_Vl (As := [.int (xs (y4 + (1 : Int32)).toNatClampNeg)]) (rest := []) M hK hI (c_Gp_packet l A pm cnt fd tt xt li la hC (xs (y4 + (1 : Int32)).toNatClampNeg)) k_Gp_packet m_La_99 hC.O (ci := 5) rfl (fun x hx => ⟨_, hx⟩) rfl hl.1 rfl (Nat.le_of_ble_eq_true rfl) ⟨rfl, rfl, ⟨Nat.le_of_ble_eq_true rfl, Nat.le_of_ble_eq_true rfl⟩, ⟨(by show _ ≤ 601024; omega), (by show _ ≤ 7293034; omega)⟩⟩ d_La_law_613 (fun x1 G2 H locs hw hI => ?_)
  rw [hw] at hI
  refine lv_pop2_2 hx hb d_La_law_616 rfl ?_
  refine lv_aload_n hx hb d_La_law_617 rfl (lv_at hl 2 rfl) ?_
  refine lv_aload_n hx hb d_La_law_618 rfl (lv_at hl 4 rfl) ?_
  refine lv_iload hx hb d_La_law_619 (lv_at hl 0 rfl) ?_
  refine lv_iconst (v := 1) hx hb d_La_law_621 (by decide) ?_
  refine lv_iadd hx hb d_La_law_622 ?_
  refine va_sld hx hb hX hbl hbA hI.2 (nb_in (nb_add hy 1) (by omega) (by omega)) d_La_law_623 ?_
  have hIs := hI
  refine gw_Vl (As := [.int (xs (y4 + (1 : Int32)).toNatClampNeg)]) (rest := []) M hK hI (c_Mo_packet l o q B t0 f0 l0 g0 fu fn fx fi fl hM (xs (y4 + (1 : Int32)).toNatClampNeg)) k_Mo_packet m_La_103 hM.O (ci := 6) rfl (fun x hx => ⟨_, hx⟩) rfl hl.1 rfl (Nat.le_of_ble_eq_true rfl) ⟨rfl, rfl, ⟨Nat.le_of_ble_eq_true rfl, Nat.le_of_ble_eq_true rfl⟩, ⟨(by show _ ≤ 601024; omega), (by show _ ≤ 7293034; omega)⟩⟩ d_La_law_624 (fun x3 G4 H locs hw hI => ?_)
  obtain ⟨hM1, hf1⟩ := hw
  have hC := hC.fr hf1 hap
  have hU := hf1 _ _ hU hmu
  have hM := hM1
  refine lv_pop2_2 hx hb d_La_law_627 rfl ?_
  refine lv_goto (tgt := 905) hx hb d_La_law_628 (by decide) ?_
  refine W.widen (k := c0 + 1) (n := s0 + 6) (Nat.le_add_right _ _) (Nat.le_add_right _ _) ?_
  exact kk _ _ _ _ pm cnt fd tt xt li la B 0 f0 l0 g0 fu fn fx fi fl P (Nat.le_succ _) hC hM hU hT hI (lv_sub hl [0, 1, 2, 3, 4] rfl)

set_option maxHeartbeats 4000000 in
set_option maxRecDepth 100000 in
theorem law_9 {p : Program} {l : Launch} {e : Env} {s : State} {m : MethodId} {below : List Frame} {meth : Method} {c : Code} {b L : Nat} {xs : Nat → Int32} (C0 : lw_At p s m meth c b L xs) (htr : l.stackTraces = false) {D : gw_D} (hK : gw_K D s.heap s) (hL : L ≤ 4608) {G : gw_G} {H : Heap} {locs : List Loc} {A : Nat → Nat → Nat} {o ou : Nat} {q : Nat → Nat} {P : Int64 → Prop} {pm : Nat → Nat} {cnt fd : Nat} {tt xt li : Nat → Int32} {la : Nat → Int64} {B : Nat} {t0 : Int32} {f0 l0 g0 : Nat} {fu fn fx fi : Nat → Int32} {fl : Nat → Int64} (hC : cls D G A pm cnt fd tt xt li la) (hM : mdl D G o q B t0 f0 l0 g0 fu fn fx fi fl) (hU : G ou = some (kL D 1 P)) (hap : ∀ k i, inA k i → ¬ mown o q (A k i)) (hmu : ¬ mown o q ou) (hT : tie pm cnt fd tt xt li la t0 f0 l0 fu fn fx fi fl) (hB6 : B ≤ 600) {y4 : Int32} {j9 c0 s0 : Nat} (hy : y4 = nI j9) (h9 : j9 + 9 ≤ L) (hc0 : c0 ≤ 1000) (hs0 : s0 ≤ 80000) (kk : lwK p l e s m below meth c b D A o q ou y4 c0 s0 B) (hI : gw_I D s.heap G s.heap H locs) (ls : Array Slot) (hl : lv_has ls 8 [(4, .int y4), (3, .ref ou), (2, .ref o), (1, .ref (A 0 0)), (0, .ref b)]) : W p l e room_1 s m #[Value.ref b] below meth c H locs c0 s0 (lw_Z below #[Value.ref b] s) (F0 m 631 ls []) := by
  obtain ⟨hx, hb, hr, hml, hown, hts, hX, hbl, hlocks, hgv⟩ := id C0
  have M : CallFix p m c b_La_law 8 s #[Value.ref b] tb R_La := ⟨hx, hb, hml, hown, fun w h => hts w (tb_in h)⟩
  have hbA : ¬ gw_A s.heap b := Nat.not_le.mpr hbl
  have hp0 := hC.p
  refine lv_aload_n hx hb d_La_law_631 rfl (lv_at hl 3 rfl) ?_
  refine lv_aload_n hx hb d_La_law_632 rfl (lv_at hl 4 rfl) ?_
  refine lv_iload hx hb d_La_law_633 (lv_at hl 0 rfl) ?_
  refine lv_iconst (v := 1) hx hb d_La_law_635 (by decide) ?_
  refine lv_iadd hx hb d_La_law_636 ?_
  refine va_sld hx hb hX hbl hbA hI.2 (nb_in (nb_add hy 1) (by omega) (by omega)) d_La_law_637 ?_
  refine lv_aload_n hx hb d_La_law_638 rfl (lv_at hl 4 rfl) ?_
  refine lv_iload hx hb d_La_law_639 (lv_at hl 0 rfl) ?_
  refine lv_iconst (v := 2) hx hb d_La_law_641 (by decide) ?_
  refine lv_iadd hx hb d_La_law_642 ?_
  refine va_sld hx hb hX hbl hbA hI.2 (nb_in (nb_add hy 2) (by omega) (by omega)) d_La_law_643 ?_
  refine lv_aload_n hx hb d_La_law_644 rfl (lv_at hl 1 rfl) ?_
  have hIs := hI
  refine gw_Wi (As := [.ref (A 0 0), .int (xs (y4 + (1 : Int32)).toNatClampNeg), .int (xs (y4 + (2 : Int32)).toNatClampNeg), .ref ou]) (rest := []) M hK hI (c_La_spoil l htr A pm cnt fd tt xt li la hC (xs (y4 + (1 : Int32)).toNatClampNeg) (xs (y4 + (2 : Int32)).toNatClampNeg) ou P hU) k_La_spoil m_La_104 rfl hl.1 rfl (Nat.le_of_ble_eq_true rfl) ⟨rfl, rfl, ⟨Nat.le_of_ble_eq_true rfl, Nat.le_of_ble_eq_true rfl⟩, ⟨(by show _ ≤ 601024; omega), (by show _ ≤ 7293034; omega)⟩⟩ d_La_law_645 (fun x1 G2 H locs hw hI => ?_)
  obtain ⟨pm1, cnt1, fd1, tt1, xt1, li1, la1, P1, hC1, hU1, hfr1, hev⟩ := hw
  have hM := hM.fr hfr1 (apU hap hmu)
  have hU := hU1
  have hC := hC1
  obtain ⟨P, hP⟩ : ∃ z, z = P1 := ⟨_, rfl⟩
  rw [← hP] at hU
  refine lv_istore (lv' := [(5, .int x1), (4, .int y4), (3, .ref ou), (2, .ref o), (1, .ref (A 0 0)), (0, .ref b)]) hx hb d_La_law_648 hl (by decide) rfl (fun ls hl => ?_)
  refine lv_aload_n hx hb d_La_law_650 rfl (lv_at hl 3 rfl) ?_
  refine lv_aload_n hx hb d_La_law_651 rfl (lv_at hl 5 rfl) ?_
  refine lv_iload hx hb d_La_law_652 (lv_at hl 1 rfl) ?_
  refine lv_iconst (v := 1) hx hb d_La_law_654 (by decide) ?_
  refine lv_iadd hx hb d_La_law_655 ?_
  refine va_sld hx hb hX hbl hbA hI.2 (nb_in (nb_add hy 1) (by omega) (by omega)) d_La_law_656 ?_
  refine lv_aload_n hx hb d_La_law_657 rfl (lv_at hl 5 rfl) ?_
  refine lv_iload hx hb d_La_law_658 (lv_at hl 1 rfl) ?_
  refine lv_iconst (v := 2) hx hb d_La_law_660 (by decide) ?_
  refine lv_iadd hx hb d_La_law_661 ?_
  refine va_sld hx hb hX hbl hbA hI.2 (nb_in (nb_add hy 2) (by omega) (by omega)) d_La_law_662 ?_
  have hIs := hI
  refine gw_Vi (As := [.int (xs (y4 + (1 : Int32)).toNatClampNeg), .int (xs (y4 + (2 : Int32)).toNatClampNeg)]) (rest := []) M hK hI (c_Mo_spoil l o q B t0 f0 l0 g0 fu fn fx fi fl hM (xs (y4 + (1 : Int32)).toNatClampNeg) (xs (y4 + (2 : Int32)).toNatClampNeg)) k_Mo_spoil m_La_106 hM.O (ci := 6) rfl (fun x hx => ⟨_, hx⟩) rfl hl.1 rfl (Nat.le_of_ble_eq_true rfl) ⟨rfl, rfl, ⟨Nat.le_of_ble_eq_true rfl, Nat.le_of_ble_eq_true rfl⟩, ⟨(by show _ ≤ 601024; omega), (by show _ ≤ 7293034; omega)⟩⟩ d_La_law_663 (fun x3 G4 H locs hw hI => ?_)
  obtain ⟨hw, hf1⟩ := hw
  rcases hw with ⟨hbm, hM1⟩ | ⟨hbm, hbn, hM1⟩ | ⟨hbm, hbn, hM1⟩
  · have hC := hC.fr hf1 hap
    have hU := hf1 _ _ hU hmu
    have hM := hM1
    refine lv_istore (lv' := [(6, .int x3), (5, .int x1), (4, .int y4), (3, .ref ou), (2, .ref o), (1, .ref (A 0 0)), (0, .ref b)]) hx hb d_La_law_666 hl (by decide) rfl (fun ls hl => ?_)
    refine lv_goto (tgt := 905) hx hb d_La_law_668 (by decide) ?_
    exact kk _ _ _ _ pm1 cnt1 fd1 tt1 xt1 li1 la1 B 1 f0 l0 g0 fu fn fx fi fl P (Nat.le_succ _) hC hM hU (tn_stay hT hev) hI (lv_sub hl [2, 3, 4, 5, 6] rfl)
  · have hC := hC.fr hf1 hap
    have hU := hf1 _ _ hU hmu
    have hM := hM1
    refine lv_istore (lv' := [(6, .int x3), (5, .int x1), (4, .int y4), (3, .ref ou), (2, .ref o), (1, .ref (A 0 0)), (0, .ref b)]) hx hb d_La_law_666 hl (by decide) rfl (fun ls hl => ?_)
    refine lv_goto (tgt := 905) hx hb d_La_law_668 (by decide) ?_
    exact kk _ _ _ _ pm1 cnt1 fd1 tt1 xt1 li1 la1 B 2 f0 l0 g0 fu fn fx fi fl P (Nat.le_succ _) hC hM hU (tn_stay hT hev) hI (lv_sub hl [2, 3, 4, 5, 6] rfl)
  · have hC := hC.fr hf1 hap
    have hU := hf1 _ _ hU hmu
    have hM := hM1
    refine lv_istore (lv' := [(6, .int x3), (5, .int x1), (4, .int y4), (3, .ref ou), (2, .ref o), (1, .ref (A 0 0)), (0, .ref b)]) hx hb d_La_law_666 hl (by decide) rfl (fun ls hl => ?_)
    refine lv_goto (tgt := 905) hx hb d_La_law_668 (by decide) ?_
    exact kk _ _ _ _ pm1 cnt1 fd1 tt1 xt1 li1 la1 B 0 f0 l0 g0 fu fn fx fi fl P (Nat.le_succ _) hC hM hU (tn_stay hT hev) hI (lv_sub hl [2, 3, 4, 5, 6] rfl)

set_option maxHeartbeats 4000000 in
set_option maxRecDepth 100000 in
theorem law_10 {p : Program} {l : Launch} {e : Env} {s : State} {m : MethodId} {below : List Frame} {meth : Method} {c : Code} {b L : Nat} {xs : Nat → Int32} (C0 : lw_At p s m meth c b L xs) (htr : l.stackTraces = false) {D : gw_D} (hK : gw_K D s.heap s) (hL : L ≤ 4608) {G : gw_G} {H : Heap} {locs : List Loc} {A : Nat → Nat → Nat} {o ou : Nat} {q : Nat → Nat} {P : Int64 → Prop} {pm : Nat → Nat} {cnt fd : Nat} {tt xt li : Nat → Int32} {la : Nat → Int64} {B : Nat} {t0 : Int32} {f0 l0 g0 : Nat} {fu fn fx fi : Nat → Int32} {fl : Nat → Int64} (hC : cls D G A pm cnt fd tt xt li la) (hM : mdl D G o q B t0 f0 l0 g0 fu fn fx fi fl) (hU : G ou = some (kL D 1 P)) (hap : ∀ k i, inA k i → ¬ mown o q (A k i)) (hmu : ¬ mown o q ou) (hT : tie pm cnt fd tt xt li la t0 f0 l0 fu fn fx fi fl) (hB6 : B ≤ 600) {y4 : Int32} {j9 c0 s0 : Nat} (hy : y4 = nI j9) (h9 : j9 + 9 ≤ L) (hc0 : c0 ≤ 1000) (hs0 : s0 ≤ 80000) (kk : lwK p l e s m below meth c b D A o q ou y4 c0 s0 B) (hI : gw_I D s.heap G s.heap H locs) (ls : Array Slot) (hl : lv_has ls 8 [(4, .int y4), (3, .ref ou), (2, .ref o), (1, .ref (A 0 0)), (0, .ref b)]) : W p l e room_1 s m #[Value.ref b] below meth c H locs c0 s0 (lw_Z below #[Value.ref b] s) (F0 m 671 ls []) := by
  obtain ⟨hx, hb, hr, hml, hown, hts, hX, hbl, hlocks, hgv⟩ := id C0
  have M : CallFix p m c b_La_law 8 s #[Value.ref b] tb R_La := ⟨hx, hb, hml, hown, fun w h => hts w (tb_in h)⟩
  have hbA : ¬ gw_A s.heap b := Nat.not_le.mpr hbl
  have hp0 := hC.p
  refine lv_aload_n hx hb d_La_law_671 rfl (lv_at hl 3 rfl) ?_
  refine lv_aload_n hx hb d_La_law_672 rfl (lv_at hl 4 rfl) ?_
  refine lv_iload hx hb d_La_law_673 (lv_at hl 0 rfl) ?_
  refine lv_iconst (v := 1) hx hb d_La_law_675 (by decide) ?_
  refine lv_iadd hx hb d_La_law_676 ?_
  refine va_sld hx hb hX hbl hbA hI.2 (nb_in (nb_add hy 1) (by omega) (by omega)) d_La_law_677 ?_
  have hIs := hI
  refine gw_Wi (As := [.ref (A 0 0), .int (xs (y4 + (1 : Int32)).toNatClampNeg)]) (rest := []) M hK hI (c_La_cut l htr A pm cnt fd tt xt li la hC (xs (y4 + (1 : Int32)).toNatClampNeg)) k_La_cut m_La_107 rfl hl.1 rfl (Nat.le_of_ble_eq_true rfl) ⟨rfl, rfl, ⟨Nat.le_of_ble_eq_true rfl, Nat.le_of_ble_eq_true rfl⟩, ⟨(by show _ ≤ 601024; omega), (by show _ ≤ 7293034; omega)⟩⟩ d_La_law_678 (fun x1 G2 H locs hw hI => ?_)
  rw [hw] at hI
  refine lv_istore (lv' := [(5, .int x1), (4, .int y4), (3, .ref ou), (2, .ref o), (1, .ref (A 0 0)), (0, .ref b)]) hx hb d_La_law_681 hl (by decide) rfl (fun ls hl => ?_)
  refine lv_aload_n hx hb d_La_law_683 rfl (lv_at hl 3 rfl) ?_
  refine lv_aload_n hx hb d_La_law_684 rfl (lv_at hl 5 rfl) ?_
  refine lv_iload hx hb d_La_law_685 (lv_at hl 1 rfl) ?_
  refine lv_iconst (v := 1) hx hb d_La_law_687 (by decide) ?_
  refine lv_iadd hx hb d_La_law_688 ?_
  refine va_sld hx hb hX hbl hbA hI.2 (nb_in (nb_add hy 1) (by omega) (by omega)) d_La_law_689 ?_
  have hIs := hI
  refine gw_Vv (As := [.int (xs (y4 + (1 : Int32)).toNatClampNeg)]) (rest := []) M hK hI (c_Mo_cut l o q B t0 f0 l0 g0 fu fn fx fi fl hM (xs (y4 + (1 : Int32)).toNatClampNeg)) k_Mo_cut m_La_110 hM.O (ci := 6) rfl (fun x hx => ⟨_, hx⟩) rfl hl.1 rfl (Nat.le_of_ble_eq_true rfl) ⟨rfl, rfl, ⟨Nat.le_of_ble_eq_true rfl, Nat.le_of_ble_eq_true rfl⟩, ⟨(by show _ ≤ 601024; omega), (by show _ ≤ 7293034; omega)⟩⟩ d_La_law_690 (fun G4 H locs hw hI => ?_)
  obtain ⟨hw, hf1⟩ := hw
  rcases hw with ⟨hbm, hM1⟩ | ⟨hbm, nc, hnc, hnc2, hM1⟩
  · have hC := hC.fr hf1 hap
    have hU := hf1 _ _ hU hmu
    have hM := hM1
    refine lv_goto (tgt := 905) hx hb d_La_law_693 (by decide) ?_
    exact kk _ _ _ _ pm cnt fd tt xt li la B 1 f0 l0 g0 fu fn fx fi fl P (Nat.le_succ _) hC hM hU hT hI (lv_sub hl [1, 2, 3, 4, 5] rfl)
  · have hC := hC.fr hf1 hap
    have hU := hf1 _ _ hU hmu
    have hM := hM1
    refine lv_goto (tgt := 905) hx hb d_La_law_693 (by decide) ?_
    exact kk _ _ _ _ pm cnt fd tt xt li la B 0 f0 nc g0 fu fn fx fi fl P (Nat.le_succ _) hC hM hU hT hI (lv_sub hl [1, 2, 3, 4, 5] rfl)

set_option maxHeartbeats 4000000 in
set_option maxRecDepth 100000 in
theorem law_11 {p : Program} {l : Launch} {e : Env} {s : State} {m : MethodId} {below : List Frame} {meth : Method} {c : Code} {b L : Nat} {xs : Nat → Int32} (C0 : lw_At p s m meth c b L xs) (htr : l.stackTraces = false) {D : gw_D} (hK : gw_K D s.heap s) (hL : L ≤ 4608) {G : gw_G} {H : Heap} {locs : List Loc} {A : Nat → Nat → Nat} {o ou : Nat} {q : Nat → Nat} {P : Int64 → Prop} {pm : Nat → Nat} {cnt fd : Nat} {tt xt li : Nat → Int32} {la : Nat → Int64} {B : Nat} {t0 : Int32} {f0 l0 g0 : Nat} {fu fn fx fi : Nat → Int32} {fl : Nat → Int64} (hC : cls D G A pm cnt fd tt xt li la) (hM : mdl D G o q B t0 f0 l0 g0 fu fn fx fi fl) (hU : G ou = some (kL D 1 P)) (hap : ∀ k i, inA k i → ¬ mown o q (A k i)) (hmu : ¬ mown o q ou) (hT : tie pm cnt fd tt xt li la t0 f0 l0 fu fn fx fi fl) (hB6 : B ≤ 600) {y4 : Int32} {j9 c0 s0 : Nat} (hy : y4 = nI j9) (h9 : j9 + 9 ≤ L) (hc0 : c0 ≤ 1000) (hs0 : s0 ≤ 80000) (kk : lwK p l e s m below meth c b D A o q ou y4 c0 s0 B) (hI : gw_I D s.heap G s.heap H locs) (ls : Array Slot) (hl : lv_has ls 8 [(4, .int y4), (3, .ref ou), (2, .ref o), (1, .ref (A 0 0)), (0, .ref b)]) : W p l e room_1 s m #[Value.ref b] below meth c H locs c0 s0 (lw_Z below #[Value.ref b] s) (F0 m 696 ls []) := by
  obtain ⟨hx, hb, hr, hml, hown, hts, hX, hbl, hlocks, hgv⟩ := id C0
  have M : CallFix p m c b_La_law 8 s #[Value.ref b] tb R_La := ⟨hx, hb, hml, hown, fun w h => hts w (tb_in h)⟩
  have hbA : ¬ gw_A s.heap b := Nat.not_le.mpr hbl
  have hp0 := hC.p
  refine lv_aload_n hx hb d_La_law_696 rfl (lv_at hl 3 rfl) ?_
  refine lv_aload_n hx hb d_La_law_697 rfl (lv_at hl 4 rfl) ?_
  refine lv_iload hx hb d_La_law_698 (lv_at hl 0 rfl) ?_
  refine lv_iconst (v := 1) hx hb d_La_law_700 (by decide) ?_
  refine lv_iadd hx hb d_La_law_701 ?_
  refine va_sld hx hb hX hbl hbA hI.2 (nb_in (nb_add hy 1) (by omega) (by omega)) d_La_law_702 ?_
  have hIs := hI
  refine gw_Wi (As := [.ref (A 0 0), .int (xs (y4 + (1 : Int32)).toNatClampNeg)]) (rest := []) M hK hI (c_La_keep l htr A pm cnt fd tt xt li la hC (xs (y4 + (1 : Int32)).toNatClampNeg)) k_La_keep m_La_111 rfl hl.1 rfl (Nat.le_of_ble_eq_true rfl) ⟨rfl, rfl, ⟨Nat.le_of_ble_eq_true rfl, Nat.le_of_ble_eq_true rfl⟩, ⟨(by show _ ≤ 601024; omega), (by show _ ≤ 7293034; omega)⟩⟩ d_La_law_703 (fun x1 G2 H locs hw hI => ?_)
  obtain ⟨hev, hw⟩ := hw
  rw [hw] at hI
  refine lv_istore (lv' := [(5, .int x1), (4, .int y4), (3, .ref ou), (2, .ref o), (1, .ref (A 0 0)), (0, .ref b)]) hx hb d_La_law_706 hl (by decide) rfl (fun ls hl => ?_)
  refine lv_aload_n hx hb d_La_law_708 rfl (lv_at hl 3 rfl) ?_
  refine lv_aload_n hx hb d_La_law_709 rfl (lv_at hl 5 rfl) ?_
  refine lv_iload hx hb d_La_law_710 (lv_at hl 1 rfl) ?_
  refine lv_iconst (v := 1) hx hb d_La_law_712 (by decide) ?_
  refine lv_iadd hx hb d_La_law_713 ?_
  refine va_sld hx hb hX hbl hbA hI.2 (nb_in (nb_add hy 1) (by omega) (by omega)) d_La_law_714 ?_
  have hIs := hI
  refine gw_Vv (As := [.int (xs (y4 + (1 : Int32)).toNatClampNeg)]) (rest := []) M hK hI (c_Mo_keep l o q B t0 f0 l0 g0 fu fn fx fi fl hM (xs (y4 + (1 : Int32)).toNatClampNeg)) k_Mo_keep m_La_113 hM.O (ci := 6) rfl (fun x hx => ⟨_, hx⟩) rfl hl.1 rfl (Nat.le_of_ble_eq_true rfl) ⟨rfl, rfl, ⟨Nat.le_of_ble_eq_true rfl, Nat.le_of_ble_eq_true rfl⟩, ⟨(by show _ ≤ 601024; omega), (by show _ ≤ 7293034; omega)⟩⟩ d_La_law_715 (fun G4 H locs hw hI => ?_)
  obtain ⟨hw, hf1⟩ := hw
  rcases hw with ⟨hbm, hM1⟩ | ⟨hbm, hM1⟩
  · have hC := hC.fr hf1 hap
    have hU := hf1 _ _ hU hmu
    have hM := hM1
    refine lv_goto (tgt := 905) hx hb d_La_law_718 (by decide) ?_
    exact kk _ _ _ _ pm cnt fd tt xt li la B 1 f0 l0 g0 fu fn fx fi fl P (Nat.le_succ _) hC hM hU hT hI (lv_sub hl [1, 2, 3, 4, 5] rfl)
  · have hC := hC.fr hf1 hap
    have hU := hf1 _ _ hU hmu
    have hM := hM1
    refine lv_goto (tgt := 905) hx hb d_La_law_718 (by decide) ?_
    exact kk _ _ _ _ pm cnt fd tt xt li la B 0 f0 l0 g0 fu fn fx fi fl P (Nat.le_succ _) hC hM hU hT hI (lv_sub hl [1, 2, 3, 4, 5] rfl)

set_option maxHeartbeats 4000000 in
set_option maxRecDepth 100000 in
theorem law_12 {p : Program} {l : Launch} {e : Env} {s : State} {m : MethodId} {below : List Frame} {meth : Method} {c : Code} {b L : Nat} {xs : Nat → Int32} (C0 : lw_At p s m meth c b L xs) (htr : l.stackTraces = false) {D : gw_D} (hK : gw_K D s.heap s) (hL : L ≤ 4608) {G : gw_G} {H : Heap} {locs : List Loc} {A : Nat → Nat → Nat} {o ou : Nat} {q : Nat → Nat} {P : Int64 → Prop} {pm : Nat → Nat} {cnt fd : Nat} {tt xt li : Nat → Int32} {la : Nat → Int64} {B : Nat} {t0 : Int32} {f0 l0 g0 : Nat} {fu fn fx fi : Nat → Int32} {fl : Nat → Int64} (hC : cls D G A pm cnt fd tt xt li la) (hM : mdl D G o q B t0 f0 l0 g0 fu fn fx fi fl) (hU : G ou = some (kL D 1 P)) (hap : ∀ k i, inA k i → ¬ mown o q (A k i)) (hmu : ¬ mown o q ou) (hT : tie pm cnt fd tt xt li la t0 f0 l0 fu fn fx fi fl) (hB6 : B ≤ 600) {y4 : Int32} {j9 c0 s0 : Nat} (hy : y4 = nI j9) (h9 : j9 + 9 ≤ L) (hc0 : c0 ≤ 1000) (hs0 : s0 ≤ 80000) (kk : lwK p l e s m below meth c b D A o q ou y4 c0 s0 B) (hI : gw_I D s.heap G s.heap H locs) (ls : Array Slot) (hl : lv_has ls 8 [(4, .int y4), (3, .ref ou), (2, .ref o), (1, .ref (A 0 0)), (0, .ref b)]) : W p l e room_1 s m #[Value.ref b] below meth c H locs c0 s0 (lw_Z below #[Value.ref b] s) (F0 m 721 ls []) := by
  obtain ⟨hx, hb, hr, hml, hown, hts, hX, hbl, hlocks, hgv⟩ := id C0
  have M : CallFix p m c b_La_law 8 s #[Value.ref b] tb R_La := ⟨hx, hb, hml, hown, fun w h => hts w (tb_in h)⟩
  have hbA : ¬ gw_A s.heap b := Nat.not_le.mpr hbl
  have hp0 := hC.p
  refine lv_aload_n hx hb d_La_law_721 rfl (lv_at hl 3 rfl) ?_
  refine lv_aload_n hx hb d_La_law_722 rfl (lv_at hl 4 rfl) ?_
  refine lv_iload hx hb d_La_law_723 (lv_at hl 0 rfl) ?_
  refine lv_iconst (v := 1) hx hb d_La_law_725 (by decide) ?_
  refine lv_iadd hx hb d_La_law_726 ?_
  refine va_sld hx hb hX hbl hbA hI.2 (nb_in (nb_add hy 1) (by omega) (by omega)) d_La_law_727 ?_
  refine lv_aload_n hx hb d_La_law_728 rfl (lv_at hl 1 rfl) ?_
  have hIs := hI
  refine gw_Wi (As := [.ref (A 0 0), .int (xs (y4 + (1 : Int32)).toNatClampNeg), .ref ou]) (rest := []) M hK hI (c_La_bring l htr A pm cnt fd tt xt li la hC (xs (y4 + (1 : Int32)).toNatClampNeg) ou P hU) k_La_bring m_La_114 rfl hl.1 rfl (Nat.le_of_ble_eq_true rfl) ⟨rfl, rfl, ⟨Nat.le_of_ble_eq_true rfl, Nat.le_of_ble_eq_true rfl⟩, ⟨(by show _ ≤ 601024; omega), (by show _ ≤ 7293034; omega)⟩⟩ d_La_law_729 (fun x1 G2 H locs hw hI => ?_)
  obtain ⟨pm1, cnt1, fd1, tt1, xt1, li1, la1, P1, hC1, hU1, hfr1, hev⟩ := hw
  have hM := hM.fr hfr1 (apU hap hmu)
  have hU := hU1
  have hC := hC1
  obtain ⟨P, hP⟩ : ∃ z, z = P1 := ⟨_, rfl⟩
  rw [← hP] at hU
  refine lv_istore (lv' := [(5, .int x1), (4, .int y4), (3, .ref ou), (2, .ref o), (1, .ref (A 0 0)), (0, .ref b)]) hx hb d_La_law_732 hl (by decide) rfl (fun ls hl => ?_)
  refine lv_aload_n hx hb d_La_law_734 rfl (lv_at hl 3 rfl) ?_
  refine lv_aload_n hx hb d_La_law_735 rfl (lv_at hl 5 rfl) ?_
  refine lv_iload hx hb d_La_law_736 (lv_at hl 1 rfl) ?_
  refine lv_iconst (v := 1) hx hb d_La_law_738 (by decide) ?_
  refine lv_iadd hx hb d_La_law_739 ?_
  refine va_sld hx hb hX hbl hbA hI.2 (nb_in (nb_add hy 1) (by omega) (by omega)) d_La_law_740 ?_
  have hIs := hI
  refine gw_Vi (As := [.int (xs (y4 + (1 : Int32)).toNatClampNeg)]) (rest := []) M hK hI (c_Mo_bring l o q B t0 f0 l0 g0 fu fn fx fi fl hM (xs (y4 + (1 : Int32)).toNatClampNeg)) k_Mo_bring m_La_117 hM.O (ci := 6) rfl (fun x hx => ⟨_, hx⟩) rfl hl.1 rfl (Nat.le_of_ble_eq_true rfl) ⟨rfl, rfl, ⟨Nat.le_of_ble_eq_true rfl, Nat.le_of_ble_eq_true rfl⟩, ⟨(by show _ ≤ 601024; omega), (by show _ ≤ 7293034; omega)⟩⟩ d_La_law_741 (fun x3 G4 H locs hw hI => ?_)
  obtain ⟨hw, hf1⟩ := hw
  rcases hw with ⟨hbm, hM1⟩ | ⟨hbm, ⟨h_x3, hM1⟩ | ⟨nc, hnc, h_x3, hM1⟩⟩
  · have hC := hC.fr hf1 hap
    have hU := hf1 _ _ hU hmu
    have hM := hM1
    refine lv_istore (lv' := [(6, .int x3), (5, .int x1), (4, .int y4), (3, .ref ou), (2, .ref o), (1, .ref (A 0 0)), (0, .ref b)]) hx hb d_La_law_744 hl (by decide) rfl (fun ls hl => ?_)
    refine lv_goto (tgt := 905) hx hb d_La_law_746 (by decide) ?_
    exact kk _ _ _ _ pm1 cnt1 fd1 tt1 xt1 li1 la1 B 1 f0 l0 g0 fu fn fx fi fl P (Nat.le_succ _) hC hM hU (tn_stay hT hev) hI (lv_sub hl [2, 3, 4, 5, 6] rfl)
  · have hC := hC.fr hf1 hap
    have hU := hf1 _ _ hU hmu
    have hM := hM1
    refine lv_istore (lv' := [(6, .int x3), (5, .int x1), (4, .int y4), (3, .ref ou), (2, .ref o), (1, .ref (A 0 0)), (0, .ref b)]) hx hb d_La_law_744 hl (by decide) rfl (fun ls hl => ?_)
    refine lv_goto (tgt := 905) hx hb d_La_law_746 (by decide) ?_
    exact kk _ _ _ _ pm1 cnt1 fd1 tt1 xt1 li1 la1 B 0 f0 l0 g0 fu fn fx fi fl P (Nat.le_succ _) hC hM hU (tn_stay hT hev) hI (lv_sub hl [2, 3, 4, 5, 6] rfl)
  · have hC := hC.fr hf1 hap
    have hU := hf1 _ _ hU hmu
    have hM := hM1
    refine lv_istore (lv' := [(6, .int x3), (5, .int x1), (4, .int y4), (3, .ref ou), (2, .ref o), (1, .ref (A 0 0)), (0, .ref b)]) hx hb d_La_law_744 hl (by decide) rfl (fun ls hl => ?_)
    refine lv_goto (tgt := 905) hx hb d_La_law_746 (by decide) ?_
    exact kk _ _ _ _ pm1 cnt1 fd1 tt1 xt1 li1 la1 B 0 f0 nc g0 fu fn fx fi fl P (Nat.le_succ _) hC hM hU (tn_stay hT hev) hI (lv_sub hl [2, 3, 4, 5, 6] rfl)

set_option maxHeartbeats 4000000 in
set_option maxRecDepth 100000 in
theorem law_13 {p : Program} {l : Launch} {e : Env} {s : State} {m : MethodId} {below : List Frame} {meth : Method} {c : Code} {b L : Nat} {xs : Nat → Int32} (C0 : lw_At p s m meth c b L xs) (htr : l.stackTraces = false) {D : gw_D} (hK : gw_K D s.heap s) (hL : L ≤ 4608) {G : gw_G} {H : Heap} {locs : List Loc} {A : Nat → Nat → Nat} {o ou : Nat} {q : Nat → Nat} {P : Int64 → Prop} {pm : Nat → Nat} {cnt fd : Nat} {tt xt li : Nat → Int32} {la : Nat → Int64} {B : Nat} {t0 : Int32} {f0 l0 g0 : Nat} {fu fn fx fi : Nat → Int32} {fl : Nat → Int64} (hC : cls D G A pm cnt fd tt xt li la) (hM : mdl D G o q B t0 f0 l0 g0 fu fn fx fi fl) (hU : G ou = some (kL D 1 P)) (hap : ∀ k i, inA k i → ¬ mown o q (A k i)) (hmu : ¬ mown o q ou) (hT : tie pm cnt fd tt xt li la t0 f0 l0 fu fn fx fi fl) (hB6 : B ≤ 600) {y4 : Int32} {j9 c0 s0 : Nat} (hy : y4 = nI j9) (h9 : j9 + 9 ≤ L) (hc0 : c0 ≤ 1000) (hs0 : s0 ≤ 80000) (kk : lwK p l e s m below meth c b D A o q ou y4 c0 s0 B) (hI : gw_I D s.heap G s.heap H locs) (ls : Array Slot) (hl : lv_has ls 8 [(4, .int y4), (3, .ref ou), (2, .ref o), (1, .ref (A 0 0)), (0, .ref b)]) : W p l e room_1 s m #[Value.ref b] below meth c H locs c0 s0 (lw_Z below #[Value.ref b] s) (F0 m 749 ls []) := by
  obtain ⟨hx, hb, hr, hml, hown, hts, hX, hbl, hlocks, hgv⟩ := id C0
  have M : CallFix p m c b_La_law 8 s #[Value.ref b] tb R_La := ⟨hx, hb, hml, hown, fun w h => hts w (tb_in h)⟩
  have hbA : ¬ gw_A s.heap b := Nat.not_le.mpr hbl
  have hp0 := hC.p
  refine lv_aload_n hx hb d_La_law_749 rfl (lv_at hl 3 rfl) ?_
  have hIs := hI
  refine gw_Vi (As := []) (rest := []) M hK hI (c_Gp_open l A pm cnt fd tt xt li la hC ) k_Gp_open m_La_118 hC.O (ci := 5) rfl (fun x hx => ⟨_, hx⟩) rfl hl.1 rfl (Nat.le_of_ble_eq_true rfl) ⟨rfl, rfl, ⟨Nat.le_of_ble_eq_true rfl, Nat.le_of_ble_eq_true rfl⟩, ⟨(by show _ ≤ 601024; omega), (by show _ ≤ 7293034; omega)⟩⟩ d_La_law_750 (fun x1 G2 H locs hw hI => ?_)
  rw [hw] at hI
  refine lv_pop hx hb d_La_law_753 rfl ?_
  refine lv_aload_n hx hb d_La_law_754 rfl (lv_at hl 2 rfl) ?_
  have hIs := hI
  refine gw_Vi (As := []) (rest := []) M hK hI (c_Mo_open l o q B t0 f0 l0 g0 fu fn fx fi fl hM hB6) k_Mo_open m_La_121 hM.O (ci := 6) rfl (fun x hx => ⟨_, hx⟩) rfl hl.1 rfl (Nat.le_of_ble_eq_true rfl) ⟨rfl, rfl, ⟨Nat.le_of_ble_eq_true rfl, Nat.le_of_ble_eq_true rfl⟩, ⟨(by show _ ≤ 601024; omega), (by show _ ≤ 7293034; omega)⟩⟩ d_La_law_755 (fun x3 G4 H locs hw hI => ?_)
  obtain ⟨g1, B1, hB1, hM1, hf1⟩ := hw
  have hC := hC.fr hf1 hap
  have hU := hf1 _ _ hU hmu
  have hM := hM1
  refine lv_pop hx hb d_La_law_758 rfl ?_
  refine lv_goto (tgt := 905) hx hb d_La_law_759 (by decide) ?_
  refine W.widen (k := c0 + 1) (n := s0 + 6) (Nat.le_add_right _ _) (Nat.le_add_right _ _) ?_
  exact kk _ _ _ _ pm cnt fd tt xt li la B1 0 f0 l0 g1 fu fn fx fi fl P hB1 hC hM hU hT hI (lv_sub hl [0, 1, 2, 3, 4] rfl)

set_option maxHeartbeats 4000000 in
set_option maxRecDepth 100000 in
theorem law_14 {p : Program} {l : Launch} {e : Env} {s : State} {m : MethodId} {below : List Frame} {meth : Method} {c : Code} {b L : Nat} {xs : Nat → Int32} (C0 : lw_At p s m meth c b L xs) (htr : l.stackTraces = false) {D : gw_D} (hK : gw_K D s.heap s) (hL : L ≤ 4608) {G : gw_G} {H : Heap} {locs : List Loc} {A : Nat → Nat → Nat} {o ou : Nat} {q : Nat → Nat} {P : Int64 → Prop} {pm : Nat → Nat} {cnt fd : Nat} {tt xt li : Nat → Int32} {la : Nat → Int64} {B : Nat} {t0 : Int32} {f0 l0 g0 : Nat} {fu fn fx fi : Nat → Int32} {fl : Nat → Int64} (hC : cls D G A pm cnt fd tt xt li la) (hM : mdl D G o q B t0 f0 l0 g0 fu fn fx fi fl) (hU : G ou = some (kL D 1 P)) (hap : ∀ k i, inA k i → ¬ mown o q (A k i)) (hmu : ¬ mown o q ou) (hT : tie pm cnt fd tt xt li la t0 f0 l0 fu fn fx fi fl) (hB6 : B ≤ 600) {y4 : Int32} {j9 c0 s0 : Nat} (hy : y4 = nI j9) (h9 : j9 + 9 ≤ L) (hc0 : c0 ≤ 1000) (hs0 : s0 ≤ 80000) (kk : lwK p l e s m below meth c b D A o q ou y4 c0 s0 B) (hI : gw_I D s.heap G s.heap H locs) (ls : Array Slot) (hl : lv_has ls 8 [(4, .int y4), (3, .ref ou), (2, .ref o), (1, .ref (A 0 0)), (0, .ref b)]) : W p l e room_1 s m #[Value.ref b] below meth c H locs c0 s0 (lw_Z below #[Value.ref b] s) (F0 m 762 ls []) := by
  obtain ⟨hx, hb, hr, hml, hown, hts, hX, hbl, hlocks, hgv⟩ := id C0
  have M : CallFix p m c b_La_law 8 s #[Value.ref b] tb R_La := ⟨hx, hb, hml, hown, fun w h => hts w (tb_in h)⟩
  have hbA : ¬ gw_A s.heap b := Nat.not_le.mpr hbl
  have hp0 := hC.p
  refine lv_aload_n hx hb d_La_law_762 rfl (lv_at hl 3 rfl) ?_
  have hIs := hI
  refine gw_Vi (As := []) (rest := []) M hK hI (c_Gp_got l A pm cnt fd tt xt li la hC ) k_Gp_got m_La_122 hC.O (ci := 5) rfl (fun x hx => ⟨_, hx⟩) rfl hl.1 rfl (Nat.le_of_ble_eq_true rfl) ⟨rfl, rfl, ⟨Nat.le_of_ble_eq_true rfl, Nat.le_of_ble_eq_true rfl⟩, ⟨(by show _ ≤ 601024; omega), (by show _ ≤ 7293034; omega)⟩⟩ d_La_law_763 (fun x1 G2 H locs hw hI => ?_)
  rw [hw] at hI
  refine lv_pop hx hb d_La_law_766 rfl ?_
  refine lv_aload_n hx hb d_La_law_767 rfl (lv_at hl 2 rfl) ?_
  have hIs := hI
  refine gw_Vi (As := []) (rest := []) M hK hI (c_Mo_got l o q B t0 f0 l0 g0 fu fn fx fi fl hM ) k_Mo_got m_La_125 hM.O (ci := 6) rfl (fun x hx => ⟨_, hx⟩) rfl hl.1 rfl (Nat.le_of_ble_eq_true rfl) ⟨rfl, rfl, ⟨Nat.le_of_ble_eq_true rfl, Nat.le_of_ble_eq_true rfl⟩, ⟨(by show _ ≤ 601024; omega), (by show _ ≤ 7293034; omega)⟩⟩ d_La_law_768 (fun x3 G4 H locs hw hI => ?_)
  obtain ⟨h_x3, hM1, hf1⟩ := hw
  have hC := hC.fr hf1 hap
  have hU := hf1 _ _ hU hmu
  have hM := hM1
  refine lv_pop hx hb d_La_law_771 rfl ?_
  refine lv_goto (tgt := 905) hx hb d_La_law_772 (by decide) ?_
  refine W.widen (k := c0 + 1) (n := s0 + 6) (Nat.le_add_right _ _) (Nat.le_add_right _ _) ?_
  exact kk _ _ _ _ pm cnt fd tt xt li la B 0 f0 l0 g0 fu fn fx fi fl P (Nat.le_succ _) hC hM hU hT hI (lv_sub hl [0, 1, 2, 3, 4] rfl)

set_option maxHeartbeats 4000000 in
set_option maxRecDepth 100000 in
theorem law_15 {p : Program} {l : Launch} {e : Env} {s : State} {m : MethodId} {below : List Frame} {meth : Method} {c : Code} {b L : Nat} {xs : Nat → Int32} (C0 : lw_At p s m meth c b L xs) (htr : l.stackTraces = false) {D : gw_D} (hK : gw_K D s.heap s) (hL : L ≤ 4608) {G : gw_G} {H : Heap} {locs : List Loc} {A : Nat → Nat → Nat} {o ou : Nat} {q : Nat → Nat} {P : Int64 → Prop} {pm : Nat → Nat} {cnt fd : Nat} {tt xt li : Nat → Int32} {la : Nat → Int64} {B : Nat} {t0 : Int32} {f0 l0 g0 : Nat} {fu fn fx fi : Nat → Int32} {fl : Nat → Int64} (hC : cls D G A pm cnt fd tt xt li la) (hM : mdl D G o q B t0 f0 l0 g0 fu fn fx fi fl) (hU : G ou = some (kL D 1 P)) (hap : ∀ k i, inA k i → ¬ mown o q (A k i)) (hmu : ¬ mown o q ou) (hT : tie pm cnt fd tt xt li la t0 f0 l0 fu fn fx fi fl) (hB6 : B ≤ 600) {y4 : Int32} {j9 c0 s0 : Nat} (hy : y4 = nI j9) (h9 : j9 + 9 ≤ L) (hc0 : c0 ≤ 1000) (hs0 : s0 ≤ 80000) (kk : lwK p l e s m below meth c b D A o q ou y4 c0 s0 B) (hI : gw_I D s.heap G s.heap H locs) (ls : Array Slot) (hl : lv_has ls 8 [(4, .int y4), (3, .ref ou), (2, .ref o), (1, .ref (A 0 0)), (0, .ref b)]) : W p l e room_1 s m #[Value.ref b] below meth c H locs c0 s0 (lw_Z below #[Value.ref b] s) (F0 m 775 ls []) := by
  obtain ⟨hx, hb, hr, hml, hown, hts, hX, hbl, hlocks, hgv⟩ := id C0
  have M : CallFix p m c b_La_law 8 s #[Value.ref b] tb R_La := ⟨hx, hb, hml, hown, fun w h => hts w (tb_in h)⟩
  have hbA : ¬ gw_A s.heap b := Nat.not_le.mpr hbl
  have hp0 := hC.p
  refine lv_aload_n hx hb d_La_law_775 rfl (lv_at hl 3 rfl) ?_
  refine lv_aload_n hx hb d_La_law_776 rfl (lv_at hl 4 rfl) ?_
  refine lv_iload hx hb d_La_law_777 (lv_at hl 0 rfl) ?_
  refine lv_iconst (v := 1) hx hb d_La_law_779 (by decide) ?_
  refine lv_iadd hx hb d_La_law_780 ?_
  refine va_sld hx hb hX hbl hbA hI.2 (nb_in (nb_add hy 1) (by omega) (by omega)) d_La_law_781 ?_
  have hIs := hI
  refine gw_Vl (As := [.int (xs (y4 + (1 : Int32)).toNatClampNeg)]) (rest := []) M hK hI (c_Gp_data l A pm cnt fd tt xt li la hC (xs (y4 + (1 : Int32)).toNatClampNeg)) k_Gp_data m_La_126 hC.O (ci := 5) rfl (fun x hx => ⟨_, hx⟩) rfl hl.1 rfl (Nat.le_of_ble_eq_true rfl) ⟨rfl, rfl, ⟨Nat.le_of_ble_eq_true rfl, Nat.le_of_ble_eq_true rfl⟩, ⟨(by show _ ≤ 601024; omega), (by show _ ≤ 7293034; omega)⟩⟩ d_La_law_782 (fun x1 G2 H locs hw hI => ?_)
  rw [hw] at hI
  refine lv_pop2_2 hx hb d_La_law_785 rfl ?_
  refine lv_aload_n hx hb d_La_law_786 rfl (lv_at hl 2 rfl) ?_
  refine lv_aload_n hx hb d_La_law_787 rfl (lv_at hl 4 rfl) ?_
  refine lv_iload hx hb d_La_law_788 (lv_at hl 0 rfl) ?_
  refine lv_iconst (v := 1) hx hb d_La_law_790 (by decide) ?_
  refine lv_iadd hx hb d_La_law_791 ?_
  refine va_sld hx hb hX hbl hbA hI.2 (nb_in (nb_add hy 1) (by omega) (by omega)) d_La_law_792 ?_
  have hIs := hI
  refine gw_Vl (As := [.int (xs (y4 + (1 : Int32)).toNatClampNeg)]) (rest := []) M hK hI (c_Mo_data l o q B t0 f0 l0 g0 fu fn fx fi fl hM (xs (y4 + (1 : Int32)).toNatClampNeg)) k_Mo_data m_La_129 hM.O (ci := 6) rfl (fun x hx => ⟨_, hx⟩) rfl hl.1 rfl (Nat.le_of_ble_eq_true rfl) ⟨rfl, rfl, ⟨Nat.le_of_ble_eq_true rfl, Nat.le_of_ble_eq_true rfl⟩, ⟨(by show _ ≤ 601024; omega), (by show _ ≤ 7293034; omega)⟩⟩ d_La_law_793 (fun x3 G4 H locs hw hI => ?_)
  obtain ⟨hM1, hf1⟩ := hw
  have hC := hC.fr hf1 hap
  have hU := hf1 _ _ hU hmu
  have hM := hM1
  refine lv_pop2_2 hx hb d_La_law_796 rfl ?_
  refine lv_goto (tgt := 905) hx hb d_La_law_797 (by decide) ?_
  refine W.widen (k := c0 + 1) (n := s0 + 6) (Nat.le_add_right _ _) (Nat.le_add_right _ _) ?_
  exact kk _ _ _ _ pm cnt fd tt xt li la B 0 f0 l0 g0 fu fn fx fi fl P (Nat.le_succ _) hC hM hU hT hI (lv_sub hl [0, 1, 2, 3, 4] rfl)

set_option maxHeartbeats 4000000 in
set_option maxRecDepth 100000 in
theorem law_16 {p : Program} {l : Launch} {e : Env} {s : State} {m : MethodId} {below : List Frame} {meth : Method} {c : Code} {b L : Nat} {xs : Nat → Int32} (C0 : lw_At p s m meth c b L xs) (htr : l.stackTraces = false) {D : gw_D} (hK : gw_K D s.heap s) (hL : L ≤ 4608) {G : gw_G} {H : Heap} {locs : List Loc} {A : Nat → Nat → Nat} {o ou : Nat} {q : Nat → Nat} {P : Int64 → Prop} {pm : Nat → Nat} {cnt fd : Nat} {tt xt li : Nat → Int32} {la : Nat → Int64} {B : Nat} {t0 : Int32} {f0 l0 g0 : Nat} {fu fn fx fi : Nat → Int32} {fl : Nat → Int64} (hC : cls D G A pm cnt fd tt xt li la) (hM : mdl D G o q B t0 f0 l0 g0 fu fn fx fi fl) (hU : G ou = some (kL D 1 P)) (hap : ∀ k i, inA k i → ¬ mown o q (A k i)) (hmu : ¬ mown o q ou) (hT : tie pm cnt fd tt xt li la t0 f0 l0 fu fn fx fi fl) (hB6 : B ≤ 600) {y4 : Int32} {j9 c0 s0 : Nat} (hy : y4 = nI j9) (h9 : j9 + 9 ≤ L) (hc0 : c0 ≤ 1000) (hs0 : s0 ≤ 80000) (kk : lwK p l e s m below meth c b D A o q ou y4 c0 s0 B) (hI : gw_I D s.heap G s.heap H locs) (ls : Array Slot) (hl : lv_has ls 8 [(4, .int y4), (3, .ref ou), (2, .ref o), (1, .ref (A 0 0)), (0, .ref b)]) : W p l e room_1 s m #[Value.ref b] below meth c H locs c0 s0 (lw_Z below #[Value.ref b] s) (F0 m 800 ls []) := by
  obtain ⟨hx, hb, hr, hml, hown, hts, hX, hbl, hlocks, hgv⟩ := id C0
  have M : CallFix p m c b_La_law 8 s #[Value.ref b] tb R_La := ⟨hx, hb, hml, hown, fun w h => hts w (tb_in h)⟩
  have hbA : ¬ gw_A s.heap b := Nat.not_le.mpr hbl
  have hp0 := hC.p
  refine lv_aload_n hx hb d_La_law_800 rfl (lv_at hl 3 rfl) ?_
  refine lv_aload_n hx hb d_La_law_801 rfl (lv_at hl 4 rfl) ?_
  refine lv_iload hx hb d_La_law_802 (lv_at hl 0 rfl) ?_
  refine lv_iconst (v := 1) hx hb d_La_law_804 (by decide) ?_
  refine lv_iadd hx hb d_La_law_805 ?_
  refine va_sld hx hb hX hbl hbA hI.2 (nb_in (nb_add hy 1) (by omega) (by omega)) d_La_law_806 ?_
  refine lv_aload_n hx hb d_La_law_807 rfl (lv_at hl 4 rfl) ?_
  refine lv_iload hx hb d_La_law_808 (lv_at hl 0 rfl) ?_
  refine lv_iconst (v := 2) hx hb d_La_law_810 (by decide) ?_
  refine lv_iadd hx hb d_La_law_811 ?_
  refine va_sld hx hb hX hbl hbA hI.2 (nb_in (nb_add hy 2) (by omega) (by omega)) d_La_law_812 ?_
  refine lv_aload_n hx hb d_La_law_813 rfl (lv_at hl 1 rfl) ?_
  have hIs := hI
  refine gw_Wi (As := [.ref (A 0 0), .int (xs (y4 + (1 : Int32)).toNatClampNeg), .int (xs (y4 + (2 : Int32)).toNatClampNeg), .ref ou]) (rest := []) M hK hI (c_La_told l htr A pm cnt fd tt xt li la hC (xs (y4 + (1 : Int32)).toNatClampNeg) (xs (y4 + (2 : Int32)).toNatClampNeg) ou P hU) k_La_told m_La_130 rfl hl.1 rfl (Nat.le_of_ble_eq_true rfl) ⟨rfl, rfl, ⟨Nat.le_of_ble_eq_true rfl, Nat.le_of_ble_eq_true rfl⟩, ⟨(by show _ ≤ 601024; omega), (by show _ ≤ 7293034; omega)⟩⟩ d_La_law_814 (fun x1 G2 H locs hw hI => ?_)
  obtain ⟨pm1, cnt1, fd1, tt1, xt1, li1, la1, P1, hC1, hU1, hfr1, hev⟩ := hw
  have hM := hM.fr hfr1 (apU hap hmu)
  have hU := hU1
  have hC := hC1
  obtain ⟨P, hP⟩ : ∃ z, z = P1 := ⟨_, rfl⟩
  rw [← hP] at hU
  refine lv_istore (lv' := [(5, .int x1), (4, .int y4), (3, .ref ou), (2, .ref o), (1, .ref (A 0 0)), (0, .ref b)]) hx hb d_La_law_817 hl (by decide) rfl (fun ls hl => ?_)
  refine lv_aload_n hx hb d_La_law_819 rfl (lv_at hl 3 rfl) ?_
  refine lv_aload_n hx hb d_La_law_820 rfl (lv_at hl 5 rfl) ?_
  refine lv_iload hx hb d_La_law_821 (lv_at hl 1 rfl) ?_
  refine lv_iconst (v := 1) hx hb d_La_law_823 (by decide) ?_
  refine lv_iadd hx hb d_La_law_824 ?_
  refine va_sld hx hb hX hbl hbA hI.2 (nb_in (nb_add hy 1) (by omega) (by omega)) d_La_law_825 ?_
  refine lv_aload_n hx hb d_La_law_826 rfl (lv_at hl 5 rfl) ?_
  refine lv_iload hx hb d_La_law_827 (lv_at hl 1 rfl) ?_
  refine lv_iconst (v := 2) hx hb d_La_law_829 (by decide) ?_
  refine lv_iadd hx hb d_La_law_830 ?_
  refine va_sld hx hb hX hbl hbA hI.2 (nb_in (nb_add hy 2) (by omega) (by omega)) d_La_law_831 ?_
  obtain ⟨s1, hfi⟩ := isFi.ex fu fn (xs (y4 + (1 : Int32)).toNatClampNeg)
  have hfi0 := hfi
  by_cases hs1 : s1 < 16
  · have hIs := hI
    refine gw_Vl (As := [.int (xs (y4 + (1 : Int32)).toNatClampNeg), .int (xs (y4 + (2 : Int32)).toNatClampNeg)]) (rest := []) M hK hI (c_Mo_toldf l o q B t0 f0 l0 g0 fu fn fx fi fl hM (xs (y4 + (1 : Int32)).toNatClampNeg) s1 hfi hs1 (xs (y4 + (2 : Int32)).toNatClampNeg)) k_Mo_told m_La_132 hM.O (ci := 6) rfl (fun x hx => ⟨_, hx⟩) rfl hl.1 rfl (Nat.le_of_ble_eq_true rfl) ⟨rfl, rfl, ⟨Nat.le_of_ble_eq_true rfl, Nat.le_of_ble_eq_true rfl⟩, ⟨(by show _ ≤ 601024; omega), (by show _ ≤ 7293034; omega)⟩⟩ d_La_law_832 (fun x3 G4 H locs hw hI => ?_)
    obtain ⟨hw, hf1⟩ := hw
    rcases hw with ⟨hbm, hM1⟩ | ⟨hbm, hM1⟩
    · have hC := hC.fr hf1 hap
      have hU := hf1 _ _ hU hmu
      have hM := hM1
      refine lv_lstore (lv' := [(6, .long x3), (5, .int x1), (4, .int y4), (3, .ref ou), (2, .ref o), (1, .ref (A 0 0)), (0, .ref b)]) hx hb d_La_law_835 hl (by decide) rfl (fun ls hl => ?_)
      refine lv_goto (tgt := 905) hx hb d_La_law_837 (by decide) ?_
      exact kk _ _ _ _ pm1 cnt1 fd1 tt1 xt1 li1 la1 B 2 f0 l0 g0 fu fn fx fi fl P (Nat.le_succ _) hC hM hU (tn_stay hT hev) hI (lv_sub hl [2, 3, 4, 5, 6] rfl)
    · have hC := hC.fr hf1 hap
      have hU := hf1 _ _ hU hmu
      have hM := hM1
      refine lv_lstore (lv' := [(6, .long x3), (5, .int x1), (4, .int y4), (3, .ref ou), (2, .ref o), (1, .ref (A 0 0)), (0, .ref b)]) hx hb d_La_law_835 hl (by decide) rfl (fun ls hl => ?_)
      refine lv_goto (tgt := 905) hx hb d_La_law_837 (by decide) ?_
      exact kk _ _ _ _ pm1 cnt1 fd1 tt1 xt1 li1 la1 B 0 f0 l0 g0 fu fn fx fi fl P (Nat.le_succ _) hC hM hU (tn_stay hT hev) hI (lv_sub hl [2, 3, 4, 5, 6] rfl)
  · have hfi := hfi.none hs1
    have hIs := hI
    refine gw_Vl (As := [.int (xs (y4 + (1 : Int32)).toNatClampNeg), .int (xs (y4 + (2 : Int32)).toNatClampNeg)]) (rest := []) M hK hI (c_Mo_toldn l o q B t0 f0 l0 g0 fu fn fx fi fl hM (xs (y4 + (1 : Int32)).toNatClampNeg) hfi (xs (y4 + (2 : Int32)).toNatClampNeg)) k_Mo_told m_La_132 hM.O (ci := 6) rfl (fun x hx => ⟨_, hx⟩) rfl hl.1 rfl (Nat.le_of_ble_eq_true rfl) ⟨rfl, rfl, ⟨Nat.le_of_ble_eq_true rfl, Nat.le_of_ble_eq_true rfl⟩, ⟨(by show _ ≤ 601024; omega), (by show _ ≤ 7293034; omega)⟩⟩ d_La_law_832 (fun x5 G6 H locs hw hI => ?_)
    obtain ⟨hM1, hf1⟩ := hw
    have hC := hC.fr hf1 hap
    have hU := hf1 _ _ hU hmu
    have hM := hM1
    refine lv_lstore (lv' := [(6, .long x5), (5, .int x1), (4, .int y4), (3, .ref ou), (2, .ref o), (1, .ref (A 0 0)), (0, .ref b)]) hx hb d_La_law_835 hl (by decide) rfl (fun ls hl => ?_)
    refine lv_goto (tgt := 905) hx hb d_La_law_837 (by decide) ?_
    exact kk _ _ _ _ pm1 cnt1 fd1 tt1 xt1 li1 la1 B 1 f0 l0 g0 fu fn fx fi fl P (Nat.le_succ _) hC hM hU (tn_stay hT hev) hI (lv_sub hl [2, 3, 4, 5, 6] rfl)

set_option maxHeartbeats 4000000 in
set_option maxRecDepth 100000 in
theorem law_17 {p : Program} {l : Launch} {e : Env} {s : State} {m : MethodId} {below : List Frame} {meth : Method} {c : Code} {b L : Nat} {xs : Nat → Int32} (C0 : lw_At p s m meth c b L xs) (htr : l.stackTraces = false) {D : gw_D} (hK : gw_K D s.heap s) (hL : L ≤ 4608) {G : gw_G} {H : Heap} {locs : List Loc} {A : Nat → Nat → Nat} {o ou : Nat} {q : Nat → Nat} {P : Int64 → Prop} {pm : Nat → Nat} {cnt fd : Nat} {tt xt li : Nat → Int32} {la : Nat → Int64} {B : Nat} {t0 : Int32} {f0 l0 g0 : Nat} {fu fn fx fi : Nat → Int32} {fl : Nat → Int64} (hC : cls D G A pm cnt fd tt xt li la) (hM : mdl D G o q B t0 f0 l0 g0 fu fn fx fi fl) (hU : G ou = some (kL D 1 P)) (hap : ∀ k i, inA k i → ¬ mown o q (A k i)) (hmu : ¬ mown o q ou) (hT : tie pm cnt fd tt xt li la t0 f0 l0 fu fn fx fi fl) (hB6 : B ≤ 600) {y4 : Int32} {j9 c0 s0 : Nat} (hy : y4 = nI j9) (h9 : j9 + 9 ≤ L) (hc0 : c0 ≤ 1000) (hs0 : s0 ≤ 80000) (kk : lwK p l e s m below meth c b D A o q ou y4 c0 s0 B) (hI : gw_I D s.heap G s.heap H locs) (ls : Array Slot) (hl : lv_has ls 8 [(4, .int y4), (3, .ref ou), (2, .ref o), (1, .ref (A 0 0)), (0, .ref b)]) : W p l e room_1 s m #[Value.ref b] below meth c H locs c0 s0 (lw_Z below #[Value.ref b] s) (F0 m 840 ls []) := by
  obtain ⟨hx, hb, hr, hml, hown, hts, hX, hbl, hlocks, hgv⟩ := id C0
  have M : CallFix p m c b_La_law 8 s #[Value.ref b] tb R_La := ⟨hx, hb, hml, hown, fun w h => hts w (tb_in h)⟩
  have hbA : ¬ gw_A s.heap b := Nat.not_le.mpr hbl
  have hp0 := hC.p
  refine lv_aload_n hx hb d_La_law_840 rfl (lv_at hl 3 rfl) ?_
  refine lv_aload_n hx hb d_La_law_841 rfl (lv_at hl 4 rfl) ?_
  refine lv_iload hx hb d_La_law_842 (lv_at hl 0 rfl) ?_
  refine lv_iconst (v := 1) hx hb d_La_law_844 (by decide) ?_
  refine lv_iadd hx hb d_La_law_845 ?_
  refine va_sld hx hb hX hbl hbA hI.2 (nb_in (nb_add hy 1) (by omega) (by omega)) d_La_law_846 ?_
  refine lv_aload_n hx hb d_La_law_847 rfl (lv_at hl 4 rfl) ?_
  refine lv_iload hx hb d_La_law_848 (lv_at hl 0 rfl) ?_
  refine lv_iconst (v := 2) hx hb d_La_law_850 (by decide) ?_
  refine lv_iadd hx hb d_La_law_851 ?_
  refine va_sld hx hb hX hbl hbA hI.2 (nb_in (nb_add hy 2) (by omega) (by omega)) d_La_law_852 ?_
  refine lv_aload_n hx hb d_La_law_853 rfl (lv_at hl 1 rfl) ?_
  have hIs := hI
  refine gw_Wi (As := [.ref (A 0 0), .int (xs (y4 + (1 : Int32)).toNatClampNeg), .int (xs (y4 + (2 : Int32)).toNatClampNeg), .ref ou]) (rest := []) M hK hI (c_La_given l htr A pm cnt fd tt xt li la hC (xs (y4 + (1 : Int32)).toNatClampNeg) (xs (y4 + (2 : Int32)).toNatClampNeg) ou P hU) k_La_given m_La_133 rfl hl.1 rfl (Nat.le_of_ble_eq_true rfl) ⟨rfl, rfl, ⟨Nat.le_of_ble_eq_true rfl, Nat.le_of_ble_eq_true rfl⟩, ⟨(by show _ ≤ 601024; omega), (by show _ ≤ 7293034; omega)⟩⟩ d_La_law_854 (fun x1 G2 H locs hw hI => ?_)
  obtain ⟨pm1, cnt1, fd1, tt1, xt1, li1, la1, P1, hC1, hU1, hfr1, hev⟩ := hw
  have hM := hM.fr hfr1 (apU hap hmu)
  have hU := hU1
  have hC := hC1
  obtain ⟨P, hP⟩ : ∃ z, z = P1 := ⟨_, rfl⟩
  rw [← hP] at hU
  refine lv_istore (lv' := [(5, .int x1), (4, .int y4), (3, .ref ou), (2, .ref o), (1, .ref (A 0 0)), (0, .ref b)]) hx hb d_La_law_857 hl (by decide) rfl (fun ls hl => ?_)
  refine lv_aload_n hx hb d_La_law_859 rfl (lv_at hl 3 rfl) ?_
  refine lv_aload_n hx hb d_La_law_860 rfl (lv_at hl 5 rfl) ?_
  refine lv_iload hx hb d_La_law_861 (lv_at hl 1 rfl) ?_
  refine lv_iconst (v := 1) hx hb d_La_law_863 (by decide) ?_
  refine lv_iadd hx hb d_La_law_864 ?_
  refine va_sld hx hb hX hbl hbA hI.2 (nb_in (nb_add hy 1) (by omega) (by omega)) d_La_law_865 ?_
  refine lv_aload_n hx hb d_La_law_866 rfl (lv_at hl 5 rfl) ?_
  refine lv_iload hx hb d_La_law_867 (lv_at hl 1 rfl) ?_
  refine lv_iconst (v := 2) hx hb d_La_law_869 (by decide) ?_
  refine lv_iadd hx hb d_La_law_870 ?_
  refine va_sld hx hb hX hbl hbA hI.2 (nb_in (nb_add hy 2) (by omega) (by omega)) d_La_law_871 ?_
  obtain ⟨s1, hfi⟩ := isFi.ex fu fn (xs (y4 + (1 : Int32)).toNatClampNeg)
  have hfi0 := hfi
  by_cases hs1 : s1 < 16
  · have hIs := hI
    refine gw_Vl (As := [.int (xs (y4 + (1 : Int32)).toNatClampNeg), .int (xs (y4 + (2 : Int32)).toNatClampNeg)]) (rest := []) M hK hI (c_Mo_givenf l o q B t0 f0 l0 g0 fu fn fx fi fl hM (xs (y4 + (1 : Int32)).toNatClampNeg) s1 hfi hs1 (xs (y4 + (2 : Int32)).toNatClampNeg) hB6) k_Mo_given m_La_135 hM.O (ci := 6) rfl (fun x hx => ⟨_, hx⟩) rfl hl.1 rfl (Nat.le_of_ble_eq_true rfl) ⟨rfl, rfl, ⟨Nat.le_of_ble_eq_true rfl, Nat.le_of_ble_eq_true rfl⟩, ⟨(by show _ ≤ 601024; omega), (by show _ ≤ 7293034; omega)⟩⟩ d_La_law_872 (fun x3 G4 H locs hw hI => ?_)
    obtain ⟨hw, hf1⟩ := hw
    rcases hw with ⟨hbm, hM1⟩ | ⟨hbm, hM1⟩
    · have hC := hC.fr hf1 hap
      have hU := hf1 _ _ hU hmu
      have hM := hM1
      refine lv_lstore (lv' := [(6, .long x3), (5, .int x1), (4, .int y4), (3, .ref ou), (2, .ref o), (1, .ref (A 0 0)), (0, .ref b)]) hx hb d_La_law_875 hl (by decide) rfl (fun ls hl => ?_)
      refine lv_goto (tgt := 905) hx hb d_La_law_877 (by decide) ?_
      exact kk _ _ _ _ pm1 cnt1 fd1 tt1 xt1 li1 la1 B 2 f0 l0 g0 fu fn fx fi fl P (Nat.le_succ _) hC hM hU (tn_stay hT hev) hI (lv_sub hl [2, 3, 4, 5, 6] rfl)
    · have hC := hC.fr hf1 hap
      have hU := hf1 _ _ hU hmu
      have hM := hM1
      refine lv_lstore (lv' := [(6, .long x3), (5, .int x1), (4, .int y4), (3, .ref ou), (2, .ref o), (1, .ref (A 0 0)), (0, .ref b)]) hx hb d_La_law_875 hl (by decide) rfl (fun ls hl => ?_)
      refine lv_goto (tgt := 905) hx hb d_La_law_877 (by decide) ?_
      exact kk _ _ _ _ pm1 cnt1 fd1 tt1 xt1 li1 la1 B 0 f0 l0 g0 fu fn fx fi fl P (Nat.le_succ _) hC hM hU (tn_stay hT hev) hI (lv_sub hl [2, 3, 4, 5, 6] rfl)
  · have hfi := hfi.none hs1
    have hIs := hI
    refine gw_Vl (As := [.int (xs (y4 + (1 : Int32)).toNatClampNeg), .int (xs (y4 + (2 : Int32)).toNatClampNeg)]) (rest := []) M hK hI (c_Mo_givenn l o q B t0 f0 l0 g0 fu fn fx fi fl hM (xs (y4 + (1 : Int32)).toNatClampNeg) hfi (xs (y4 + (2 : Int32)).toNatClampNeg)) k_Mo_given m_La_135 hM.O (ci := 6) rfl (fun x hx => ⟨_, hx⟩) rfl hl.1 rfl (Nat.le_of_ble_eq_true rfl) ⟨rfl, rfl, ⟨Nat.le_of_ble_eq_true rfl, Nat.le_of_ble_eq_true rfl⟩, ⟨(by show _ ≤ 601024; omega), (by show _ ≤ 7293034; omega)⟩⟩ d_La_law_872 (fun x5 G6 H locs hw hI => ?_)
    obtain ⟨hM1, hf1⟩ := hw
    have hC := hC.fr hf1 hap
    have hU := hf1 _ _ hU hmu
    have hM := hM1
    refine lv_lstore (lv' := [(6, .long x5), (5, .int x1), (4, .int y4), (3, .ref ou), (2, .ref o), (1, .ref (A 0 0)), (0, .ref b)]) hx hb d_La_law_875 hl (by decide) rfl (fun ls hl => ?_)
    refine lv_goto (tgt := 905) hx hb d_La_law_877 (by decide) ?_
    exact kk _ _ _ _ pm1 cnt1 fd1 tt1 xt1 li1 la1 B 1 f0 l0 g0 fu fn fx fi fl P (Nat.le_succ _) hC hM hU (tn_stay hT hev) hI (lv_sub hl [2, 3, 4, 5, 6] rfl)

set_option maxHeartbeats 4000000 in
set_option maxRecDepth 100000 in
theorem law_18 {p : Program} {l : Launch} {e : Env} {s : State} {m : MethodId} {below : List Frame} {meth : Method} {c : Code} {b L : Nat} {xs : Nat → Int32} (C0 : lw_At p s m meth c b L xs) (htr : l.stackTraces = false) {D : gw_D} (hK : gw_K D s.heap s) (hL : L ≤ 4608) {G : gw_G} {H : Heap} {locs : List Loc} {A : Nat → Nat → Nat} {o ou : Nat} {q : Nat → Nat} {P : Int64 → Prop} {pm : Nat → Nat} {cnt fd : Nat} {tt xt li : Nat → Int32} {la : Nat → Int64} {B : Nat} {t0 : Int32} {f0 l0 g0 : Nat} {fu fn fx fi : Nat → Int32} {fl : Nat → Int64} (hC : cls D G A pm cnt fd tt xt li la) (hM : mdl D G o q B t0 f0 l0 g0 fu fn fx fi fl) (hU : G ou = some (kL D 1 P)) (hap : ∀ k i, inA k i → ¬ mown o q (A k i)) (hmu : ¬ mown o q ou) (hT : tie pm cnt fd tt xt li la t0 f0 l0 fu fn fx fi fl) (hB6 : B ≤ 600) {y4 : Int32} {j9 c0 s0 : Nat} (hy : y4 = nI j9) (h9 : j9 + 9 ≤ L) (hc0 : c0 ≤ 1000) (hs0 : s0 ≤ 80000) (kk : lwK p l e s m below meth c b D A o q ou y4 c0 s0 B) (hI : gw_I D s.heap G s.heap H locs) (ls : Array Slot) (hl : lv_has ls 8 [(4, .int y4), (3, .ref ou), (2, .ref o), (1, .ref (A 0 0)), (0, .ref b)]) : W p l e room_1 s m #[Value.ref b] below meth c H locs c0 s0 (lw_Z below #[Value.ref b] s) (F0 m 880 ls []) := by
  obtain ⟨hx, hb, hr, hml, hown, hts, hX, hbl, hlocks, hgv⟩ := id C0
  have M : CallFix p m c b_La_law 8 s #[Value.ref b] tb R_La := ⟨hx, hb, hml, hown, fun w h => hts w (tb_in h)⟩
  have hbA : ¬ gw_A s.heap b := Nat.not_le.mpr hbl
  have hp0 := hC.p
  refine lv_aload_n hx hb d_La_law_880 rfl (lv_at hl 3 rfl) ?_
  refine lv_aload_n hx hb d_La_law_881 rfl (lv_at hl 4 rfl) ?_
  refine lv_iload hx hb d_La_law_882 (lv_at hl 0 rfl) ?_
  refine lv_iconst (v := 1) hx hb d_La_law_884 (by decide) ?_
  refine lv_iadd hx hb d_La_law_885 ?_
  refine va_sld hx hb hX hbl hbA hI.2 (nb_in (nb_add hy 1) (by omega) (by omega)) d_La_law_886 ?_
  have hIs := hI
  refine gw_Vi (As := [.int (xs (y4 + (1 : Int32)).toNatClampNeg)]) (rest := []) M hK hI (c_Gp_name l A pm cnt fd tt xt li la hC (xs (y4 + (1 : Int32)).toNatClampNeg)) k_Gp_name m_La_136 hC.O (ci := 5) rfl (fun x hx => ⟨_, hx⟩) rfl hl.1 rfl (Nat.le_of_ble_eq_true rfl) ⟨rfl, rfl, ⟨Nat.le_of_ble_eq_true rfl, Nat.le_of_ble_eq_true rfl⟩, ⟨(by show _ ≤ 601024; omega), (by show _ ≤ 7293034; omega)⟩⟩ d_La_law_887 (fun x1 G2 H locs hw hI => ?_)
  obtain ⟨hn1, hn2, hw⟩ := hw
  rw [hw] at hI
  refine lv_pop hx hb d_La_law_890 rfl ?_
  refine lv_aload_n hx hb d_La_law_891 rfl (lv_at hl 2 rfl) ?_
  refine lv_aload_n hx hb d_La_law_892 rfl (lv_at hl 4 rfl) ?_
  refine lv_iload hx hb d_La_law_893 (lv_at hl 0 rfl) ?_
  refine lv_iconst (v := 1) hx hb d_La_law_895 (by decide) ?_
  refine lv_iadd hx hb d_La_law_896 ?_
  refine va_sld hx hb hX hbl hbA hI.2 (nb_in (nb_add hy 1) (by omega) (by omega)) d_La_law_897 ?_
  have hIs := hI
  refine gw_Vi (As := [.int (xs (y4 + (1 : Int32)).toNatClampNeg)]) (rest := []) M hK hI (c_Mo_name l o q B t0 f0 l0 g0 fu fn fx fi fl hM (xs (y4 + (1 : Int32)).toNatClampNeg)) k_Mo_name m_La_139 hM.O (ci := 6) rfl (fun x hx => ⟨_, hx⟩) rfl hl.1 rfl (Nat.le_of_ble_eq_true rfl) ⟨rfl, rfl, ⟨Nat.le_of_ble_eq_true rfl, Nat.le_of_ble_eq_true rfl⟩, ⟨(by show _ ≤ 601024; omega), (by show _ ≤ 7293034; omega)⟩⟩ d_La_law_898 (fun x3 G4 H locs hw hI => ?_)
  obtain ⟨hM1, hf1⟩ := hw
  have hC := hC.fr hf1 hap
  have hU := hf1 _ _ hU hmu
  have hM := hM1
  refine lv_pop hx hb d_La_law_901 rfl ?_
  refine lv_goto (tgt := 905) hx hb d_La_law_902 (by decide) ?_
  refine W.widen (k := c0 + 1) (n := s0 + 6) (Nat.le_add_right _ _) (Nat.le_add_right _ _) ?_
  exact kk _ _ _ _ pm cnt fd tt xt li la B 0 f0 l0 g0 fu fn fx fi fl P (Nat.le_succ _) hC hM hU hT hI (lv_sub hl [0, 1, 2, 3, 4] rfl)
