theorem isFi.none {fu fn : Nat → Int32} {n : Int32} {s : Nat} (h : isFi fu fn n s) (hs : ¬ s < 16) : ∀ j, j < 16 → ¬ (¬ fu j = 0 ∧ fn j = n) := fun j hj => h.2.1 j (by omega)
theorem ff_ex {fu : Nat → Int32} (h : ¬ ∀ j, j < 16 → ¬ fu j = 0) : ∃ s, s < 16 ∧ fu s = 0 ∧ ∀ j, j < s → ¬ fu j = 0 := by
  have h1 : ∀ m, m ≤ 16 → (∃ s, s < 16 ∧ fu s = 0 ∧ ∀ j, j < s → ¬ fu j = 0) ∨ ∀ j, j < m → ¬ fu j = 0 := by
    intro m
    induction m with
    | zero => intro _; exact Or.inr (fun j hj => absurd hj (Nat.not_lt_zero _))
    | succ m ih =>
      intro hm
      rcases ih (by omega) with h2 | h2
      · exact Or.inl h2
      · by_cases hc : fu m = 0
        · exact Or.inl ⟨m, by omega, hc, h2⟩
        · refine Or.inr (fun j hj => ?_)
          by_cases hj2 : j = m
          · rw [hj2]; exact hc
          · exact h2 j (by omega)
  rcases h1 16 (Nat.le_refl _) with h2 | h2
  · exact h2
  · exact absurd h2 h
theorem apO {A : Nat → Nat → Nat} {o : Nat} {q : Nat → Nat} (hap : ∀ k i, inA k i → ¬ mown o q (A k i)) : ∀ b, mown o q b → ¬ own A b := fun b hb ho => by
  rcases ho with e | e | e | ⟨i, hi, e⟩
  · exact hap 0 0 (iA0 (by decide)) (e ▸ hb)
  · exact hap 1 0 (iA0 (by decide)) (e ▸ hb)
  · exact hap 2 0 (iA0 (by decide)) (e ▸ hb)
  · exact hap 12 i (iA1 (by decide) (by decide) hi) (e ▸ hb)
theorem apU {A : Nat → Nat → Nat} {o ou : Nat} {q : Nat → Nat} (hap : ∀ k i, inA k i → ¬ mown o q (A k i)) (hmu : ¬ mown o q ou) : ∀ b, mown o q b → ¬ ownU A ou b := fun b hb ho => ho.elim (apO hap b hb) (fun e => hmu (e ▸ hb))

def tie (pm : Nat → Nat) (cnt fd : Nat) (tt xt li : Nat → Int32) (la : Nat → Int64) (t0 : Int32) (f0 l0 : Nat) (fu fn fx fi : Nat → Int32) (fl : Nat → Int64) : Prop := fd = f0
theorem t_feed {x : Int32} {fd f0 fd1 nm : Nat} (hT : fd = f0) (hnm : x = nI nm) (h8 : nm ≤ 8) {Q1 : Prop} {Q2 : Nat → Prop} (h : ∃ n : Nat, 1 ≤ n ∧ n ≤ 8 ∧ x = nI n ∧ ((200 < fd + n ∧ fd1 = fd ∧ Q1) ∨ (fd + n ≤ 200 ∧ fd1 = fd + n ∧ Q2 n))) : (200 < f0 + nm → fd1 = f0 ∧ Q1) ∧ (f0 + nm ≤ 200 → fd1 = f0 + nm ∧ Q2 nm) := by
  obtain ⟨n, h1, h2, h3, h4⟩ := h
  have e : n = nm := pk_nin (by omega) (by omega) (h3.symm.trans hnm)
  subst e
  subst hT
  rcases h4 with h | h
  · exact ⟨fun _ => h.2, fun q => absurd q (by omega)⟩
  · exact ⟨fun q => absurd q (by omega), fun _ => h.2⟩

/-- behind a call -/
def lwK (p : Program) (l : Launch) (e : Env) (s : State) (m : MethodId) (below : List Frame) (meth : Method) (c : Code) (b : Nat) (D : gw_D) (A : Nat → Nat → Nat) (o : Nat) (q : Nat → Nat) (ou : Nat) (y4 : Int32) (c0 s0 B0 : Nat) : Prop := ∀ (G : gw_G) (H : Heap) (locs : List Loc) (ls : Array Slot) (pm : Nat → Nat) (cnt fd : Nat) (tt xt li : Nat → Int32) (la : Nat → Int64) (B : Nat) (t0 : Int32) (f0 l0 g0 : Nat) (fu fn fx fi : Nat → Int32) (fl : Nat → Int64) (P : Int64 → Prop), B ≤ B0 + 1 → cls D G A pm cnt fd tt xt li la → mdl D G o q B t0 f0 l0 g0 fu fn fx fi fl → G ou = some (kL D 1 P) → tie pm cnt fd tt xt li la t0 f0 l0 fu fn fx fi fl → gw_I D s.heap G s.heap H locs → lv_has ls 8 [(4, .int y4), (3, .ref ou), (2, .ref o), (1, .ref (A 0 0)), (0, .ref b)] → W p l e room_1 s m #[Value.ref b] below meth c H locs (c0 + 1) (s0 + 6) (lw_Z below #[Value.ref b] s) (F0 m 905 ls [])

set_option maxHeartbeats 4000000 in
set_option maxRecDepth 100000 in
theorem law_0 {p : Program} {l : Launch} {e : Env} {s : State} {m : MethodId} {below : List Frame} {meth : Method} {c : Code} {b L : Nat} {xs : Nat → Int32} (C0 : lw_At p s m meth c b L xs) (htr : l.stackTraces = false) {D : gw_D} (hK : gw_K D s.heap s) (hL : L ≤ 4608) {G : gw_G} {H : Heap} {locs : List Loc} {A : Nat → Nat → Nat} {o ou : Nat} {q : Nat → Nat} {P : Int64 → Prop} {pm : Nat → Nat} {cnt fd : Nat} {tt xt li : Nat → Int32} {la : Nat → Int64} {B : Nat} {t0 : Int32} {f0 l0 g0 : Nat} {fu fn fx fi : Nat → Int32} {fl : Nat → Int64} (hC : cls D G A pm cnt fd tt xt li la) (hM : mdl D G o q B t0 f0 l0 g0 fu fn fx fi fl) (hU : G ou = some (kL D 1 P)) (hap : ∀ k i, inA k i → ¬ mown o q (A k i)) (hmu : ¬ mown o q ou) (hT : tie pm cnt fd tt xt li la t0 f0 l0 fu fn fx fi fl) (hB6 : B ≤ 600) {y4 : Int32} {j9 c0 s0 : Nat} (hy : y4 = nI j9) (h9 : j9 + 9 ≤ L) (hc0 : c0 ≤ 1000) (hs0 : s0 ≤ 80000) (kk : lwK p l e s m below meth c b D A o q ou y4 c0 s0 B) (hI : gw_I D s.heap G s.heap H locs) (ls : Array Slot) (hl : lv_has ls 8 [(4, .int y4), (3, .ref ou), (2, .ref o), (1, .ref (A 0 0)), (0, .ref b)]) : W p l e room_1 s m #[Value.ref b] below meth c H locs c0 s0 (lw_Z below #[Value.ref b] s) (F0 m 132 ls []) := by
  obtain ⟨hx, hb, hr, hml, hown, hts, hX, hbl, hlocks, hgv⟩ := id C0
  have M : CallFix p m c b_La_law 8 s #[Value.ref b] tb R_La := ⟨hx, hb, hml, hown, fun w h => hts w (tb_in h)⟩
  have hbA : ¬ gw_A s.heap b := Nat.not_le.mpr hbl
  refine lv_aload_n hx hb d_La_law_132 rfl (lv_at hl 3 rfl) ?_
  refine lv_aload_n hx hb d_La_law_133 rfl (lv_at hl 4 rfl) ?_
  refine lv_iload hx hb d_La_law_134 (lv_at hl 0 rfl) ?_
  refine lv_iconst (v := 1) hx hb d_La_law_136 (by decide) ?_
  refine lv_iadd hx hb d_La_law_137 ?_
  refine va_sld hx hb hX hbl hbA hI.2 (nb_in (nb_add hy 1) (by omega) (by omega)) d_La_law_138 ?_
  refine lv_aload_n hx hb d_La_law_139 rfl (lv_at hl 4 rfl) ?_
  refine lv_iload hx hb d_La_law_140 (lv_at hl 0 rfl) ?_
  refine lv_iconst (v := 2) hx hb d_La_law_142 (by decide) ?_
  refine lv_iadd hx hb d_La_law_143 ?_
  refine va_sld hx hb hX hbl hbA hI.2 (nb_in (nb_add hy 2) (by omega) (by omega)) d_La_law_144 ?_
  refine lv_i2l hx hb d_La_law_145 rfl ?_
  refine lv_bipush (v := 32) hx hb d_La_law_146 (by decide) ?_
  refine lv_lshl hx hb d_La_law_148 rfl ?_
  refine lv_aload_n hx hb d_La_law_149 rfl (lv_at hl 4 rfl) ?_
  refine lv_iload hx hb d_La_law_150 (lv_at hl 0 rfl) ?_
  refine lv_iconst (v := 3) hx hb d_La_law_152 (by decide) ?_
  refine lv_iadd hx hb d_La_law_153 ?_
  refine va_sld hx hb hX hbl hbA hI.2 (nb_in (nb_add hy 3) (by omega) (by omega)) d_La_law_154 ?_
  refine lv_i2l hx hb d_La_law_155 rfl ?_
  refine lv_ldc2 (v := 4294967295) hx hb M.2.2.2.1 (M.2.2.2.2 _ o_La_59) d_La_law_156 ?_
  refine lv_land hx hb d_La_law_159 ?_
  refine lv_lor hx hb d_La_law_160 ?_
  refine lv_aload_n hx hb d_La_law_161 rfl (lv_at hl 4 rfl) ?_
  refine lv_iload hx hb d_La_law_162 (lv_at hl 0 rfl) ?_
  refine lv_iconst (v := 4) hx hb d_La_law_164 (by decide) ?_
  refine lv_iadd hx hb d_La_law_165 ?_
  refine va_sld hx hb hX hbl hbA hI.2 (nb_in (nb_add hy 4) (by omega) (by omega)) d_La_law_166 ?_
  refine lv_i2l hx hb d_La_law_167 rfl ?_
  refine lv_bipush (v := 32) hx hb d_La_law_168 (by decide) ?_
  refine lv_lshl hx hb d_La_law_170 rfl ?_
  refine lv_aload_n hx hb d_La_law_171 rfl (lv_at hl 4 rfl) ?_
  refine lv_iload hx hb d_La_law_172 (lv_at hl 0 rfl) ?_
  refine lv_iconst (v := 5) hx hb d_La_law_174 (by decide) ?_
  refine lv_iadd hx hb d_La_law_175 ?_
  refine va_sld hx hb hX hbl hbA hI.2 (nb_in (nb_add hy 5) (by omega) (by omega)) d_La_law_176 ?_
  refine lv_i2l hx hb d_La_law_177 rfl ?_
  refine lv_ldc2 (v := 4294967295) hx hb M.2.2.2.1 (M.2.2.2.2 _ o_La_59) d_La_law_178 ?_
  refine lv_land hx hb d_La_law_181 ?_
  refine lv_lor hx hb d_La_law_182 ?_
  refine lv_aload_n hx hb d_La_law_183 rfl (lv_at hl 4 rfl) ?_
  refine lv_iload hx hb d_La_law_184 (lv_at hl 0 rfl) ?_
  refine lv_bipush (v := 6) hx hb d_La_law_186 (by decide) ?_
  refine lv_iadd hx hb d_La_law_188 ?_
  refine va_sld hx hb hX hbl hbA hI.2 (nb_in (nb_add hy 6) (by omega) (by omega)) d_La_law_189 ?_
  refine lv_aload_n hx hb d_La_law_190 rfl (lv_at hl 4 rfl) ?_
  refine lv_iload hx hb d_La_law_191 (lv_at hl 0 rfl) ?_
  refine lv_bipush (v := 7) hx hb d_La_law_193 (by decide) ?_
  refine lv_iadd hx hb d_La_law_195 ?_
  refine va_sld hx hb hX hbl hbA hI.2 (nb_in (nb_add hy 7) (by omega) (by omega)) d_La_law_196 ?_
  refine lv_aload_n hx hb d_La_law_197 rfl (lv_at hl 4 rfl) ?_
  refine lv_iload hx hb d_La_law_198 (lv_at hl 0 rfl) ?_
  refine lv_bipush (v := 8) hx hb d_La_law_200 (by decide) ?_
  refine lv_iadd hx hb d_La_law_202 ?_
  refine va_sld hx hb hX hbl hbA hI.2 (nb_in (nb_add hy 8) (by omega) (by omega)) d_La_law_203 ?_
  refine lv_if_eq (tgt := 211) hx hb d_La_law_204 (by decide) (fun c_204 => ?_) (fun c_204 => ?_)
  · have hn8 := c_204
    refine lv_iconst (v := 0) hx hb d_La_law_211 (by decide) ?_
    refine lv_aload_n hx hb d_La_law_212 rfl (lv_at hl 1 rfl) ?_
    have hIs := hI
    refine gw_Wi (As := [.ref (A 0 0), .int (xs (y4 + (1 : Int32)).toNatClampNeg), .long (((((xs (y4 + (2 : Int32)).toNatClampNeg)).toInt64) <<< (((32 : Int32)).toInt64 &&& 63)) ||| ((((xs (y4 + (3 : Int32)).toNatClampNeg)).toInt64) &&& (4294967295 : Int64))), .long (((((xs (y4 + (4 : Int32)).toNatClampNeg)).toInt64) <<< (((32 : Int32)).toInt64 &&& 63)) ||| ((((xs (y4 + (5 : Int32)).toNatClampNeg)).toInt64) &&& (4294967295 : Int64))), .int (xs (y4 + (6 : Int32)).toNatClampNeg), .int (xs (y4 + (7 : Int32)).toNatClampNeg), .int 0, .ref ou]) (rest := []) M hK hI (c_La_add l htr A pm cnt fd tt xt li la hC (xs (y4 + (1 : Int32)).toNatClampNeg) (((((xs (y4 + (2 : Int32)).toNatClampNeg)).toInt64) <<< (((32 : Int32)).toInt64 &&& 63)) ||| ((((xs (y4 + (3 : Int32)).toNatClampNeg)).toInt64) &&& (4294967295 : Int64))) (((((xs (y4 + (4 : Int32)).toNatClampNeg)).toInt64) <<< (((32 : Int32)).toInt64 &&& 63)) ||| ((((xs (y4 + (5 : Int32)).toNatClampNeg)).toInt64) &&& (4294967295 : Int64))) (xs (y4 + (6 : Int32)).toNatClampNeg) (xs (y4 + (7 : Int32)).toNatClampNeg) (0 : Int32) (Or.inl rfl) ou P hU) k_La_add m_La_61 rfl hl.1 rfl (Nat.le_of_ble_eq_true rfl) ⟨rfl, rfl, ⟨Nat.le_of_ble_eq_true rfl, Nat.le_of_ble_eq_true rfl⟩, ⟨(by show _ ≤ 601024; omega), (by show _ ≤ 7293034; omega)⟩⟩ d_La_law_213 (fun x1 G2 H locs hw hI => ?_)
    obtain ⟨pm1, cnt1, fd1, tt1, xt1, li1, la1, P1, hC1, hU1, hfr1, hev⟩ := hw
    have hM := hM.fr hfr1 (apU hap hmu)
    have hU := hU1
    have hC := hC1
    obtain ⟨P, hP⟩ : ∃ z, z = P1 := ⟨_, rfl⟩
    rw [← hP] at hU
    refine lv_istore (lv' := [(5, .int x1), (4, .int y4), (3, .ref ou), (2, .ref o), (1, .ref (A 0 0)), (0, .ref b)]) hx hb d_La_law_216 hl (by decide) rfl (fun ls hl => ?_)
    refine lv_aload_n hx hb d_La_law_218 rfl (lv_at hl 3 rfl) ?_
    refine lv_aload_n hx hb d_La_law_219 rfl (lv_at hl 5 rfl) ?_
    refine lv_iload hx hb d_La_law_220 (lv_at hl 1 rfl) ?_
    refine lv_iconst (v := 1) hx hb d_La_law_222 (by decide) ?_
    refine lv_iadd hx hb d_La_law_223 ?_
    refine va_sld hx hb hX hbl hbA hI.2 (nb_in (nb_add hy 1) (by omega) (by omega)) d_La_law_224 ?_
    refine lv_aload_n hx hb d_La_law_225 rfl (lv_at hl 5 rfl) ?_
    refine lv_iload hx hb d_La_law_226 (lv_at hl 1 rfl) ?_
    refine lv_iconst (v := 2) hx hb d_La_law_228 (by decide) ?_
    refine lv_iadd hx hb d_La_law_229 ?_
    refine va_sld hx hb hX hbl hbA hI.2 (nb_in (nb_add hy 2) (by omega) (by omega)) d_La_law_230 ?_
    refine lv_i2l hx hb d_La_law_231 rfl ?_
    refine lv_bipush (v := 32) hx hb d_La_law_232 (by decide) ?_
    refine lv_lshl hx hb d_La_law_234 rfl ?_
    refine lv_aload_n hx hb d_La_law_235 rfl (lv_at hl 5 rfl) ?_
    refine lv_iload hx hb d_La_law_236 (lv_at hl 1 rfl) ?_
    refine lv_iconst (v := 3) hx hb d_La_law_238 (by decide) ?_
    refine lv_iadd hx hb d_La_law_239 ?_
    refine va_sld hx hb hX hbl hbA hI.2 (nb_in (nb_add hy 3) (by omega) (by omega)) d_La_law_240 ?_
    refine lv_i2l hx hb d_La_law_241 rfl ?_
    refine lv_ldc2 (v := 4294967295) hx hb M.2.2.2.1 (M.2.2.2.2 _ o_La_59) d_La_law_242 ?_
    refine lv_land hx hb d_La_law_245 ?_
    refine lv_lor hx hb d_La_law_246 ?_
    refine lv_aload_n hx hb d_La_law_247 rfl (lv_at hl 5 rfl) ?_
    refine lv_iload hx hb d_La_law_248 (lv_at hl 1 rfl) ?_
    refine lv_iconst (v := 4) hx hb d_La_law_250 (by decide) ?_
    refine lv_iadd hx hb d_La_law_251 ?_
    refine va_sld hx hb hX hbl hbA hI.2 (nb_in (nb_add hy 4) (by omega) (by omega)) d_La_law_252 ?_
    refine lv_i2l hx hb d_La_law_253 rfl ?_
    refine lv_bipush (v := 32) hx hb d_La_law_254 (by decide) ?_
    refine lv_lshl hx hb d_La_law_256 rfl ?_
    refine lv_aload_n hx hb d_La_law_257 rfl (lv_at hl 5 rfl) ?_
    refine lv_iload hx hb d_La_law_258 (lv_at hl 1 rfl) ?_
    refine lv_iconst (v := 5) hx hb d_La_law_260 (by decide) ?_
    refine lv_iadd hx hb d_La_law_261 ?_
    refine va_sld hx hb hX hbl hbA hI.2 (nb_in (nb_add hy 5) (by omega) (by omega)) d_La_law_262 ?_
    refine lv_i2l hx hb d_La_law_263 rfl ?_
    refine lv_ldc2 (v := 4294967295) hx hb M.2.2.2.1 (M.2.2.2.2 _ o_La_59) d_La_law_264 ?_
    refine lv_land hx hb d_La_law_267 ?_
    refine lv_lor hx hb d_La_law_268 ?_
    refine lv_aload_n hx hb d_La_law_269 rfl (lv_at hl 5 rfl) ?_
    refine lv_iload hx hb d_La_law_270 (lv_at hl 1 rfl) ?_
    refine lv_bipush (v := 6) hx hb d_La_law_272 (by decide) ?_
    refine lv_iadd hx hb d_La_law_274 ?_
    refine va_sld hx hb hX hbl hbA hI.2 (nb_in (nb_add hy 6) (by omega) (by omega)) d_La_law_275 ?_
    refine lv_aload_n hx hb d_La_law_276 rfl (lv_at hl 5 rfl) ?_
    refine lv_iload hx hb d_La_law_277 (lv_at hl 1 rfl) ?_
    refine lv_bipush (v := 7) hx hb d_La_law_279 (by decide) ?_
    refine lv_iadd hx hb d_La_law_281 ?_
    refine va_sld hx hb hX hbl hbA hI.2 (nb_in (nb_add hy 7) (by omega) (by omega)) d_La_law_282 ?_
    refine lv_aload_n hx hb d_La_law_283 rfl (lv_at hl 5 rfl) ?_
    refine lv_iload hx hb d_La_law_284 (lv_at hl 1 rfl) ?_
    refine lv_bipush (v := 8) hx hb d_La_law_286 (by decide) ?_
    refine lv_iadd hx hb d_La_law_288 ?_
    refine va_sld hx hb hX hbl hbA hI.2 (nb_in (nb_add hy 8) (by omega) (by omega)) d_La_law_289 ?_
    refine lv_if_eq (tgt := 297) hx hb d_La_law_290 (by decide) (fun c_290 => ?_) (fun q9 => absurd hn8 q9)
    refine lv_iconst (v := 0) hx hb d_La_law_297 (by decide) ?_
    by_cases hbm : (xs (y4 + (1 : Int32)).toNatClampNeg) < 256 ∨ ¬ okW (xs (y4 + (7 : Int32)).toNatClampNeg)
    · have hIs := hI
      refine gw_Vi (As := [.int (xs (y4 + (1 : Int32)).toNatClampNeg), .long (((((xs (y4 + (2 : Int32)).toNatClampNeg)).toInt64) <<< (((32 : Int32)).toInt64 &&& 63)) ||| ((((xs (y4 + (3 : Int32)).toNatClampNeg)).toInt64) &&& (4294967295 : Int64))), .long (((((xs (y4 + (4 : Int32)).toNatClampNeg)).toInt64) <<< (((32 : Int32)).toInt64 &&& 63)) ||| ((((xs (y4 + (5 : Int32)).toNatClampNeg)).toInt64) &&& (4294967295 : Int64))), .int (xs (y4 + (6 : Int32)).toNatClampNeg), .int (xs (y4 + (7 : Int32)).toNatClampNeg), .int 0]) (rest := []) M hK hI (c_Mo_addb l o q B t0 f0 l0 g0 fu fn fx fi fl hM (xs (y4 + (1 : Int32)).toNatClampNeg) (((((xs (y4 + (2 : Int32)).toNatClampNeg)).toInt64) <<< (((32 : Int32)).toInt64 &&& 63)) ||| ((((xs (y4 + (3 : Int32)).toNatClampNeg)).toInt64) &&& (4294967295 : Int64))) (((((xs (y4 + (4 : Int32)).toNatClampNeg)).toInt64) <<< (((32 : Int32)).toInt64 &&& 63)) ||| ((((xs (y4 + (5 : Int32)).toNatClampNeg)).toInt64) &&& (4294967295 : Int64))) (xs (y4 + (6 : Int32)).toNatClampNeg) (xs (y4 + (7 : Int32)).toNatClampNeg) (0 : Int32) hbm) k_Mo_add m_La_66 hM.O (ci := 6) rfl (fun x hx => ⟨_, hx⟩) rfl hl.1 rfl (Nat.le_of_ble_eq_true rfl) ⟨rfl, rfl, ⟨Nat.le_of_ble_eq_true rfl, Nat.le_of_ble_eq_true rfl⟩, ⟨(by show _ ≤ 601024; omega), (by show _ ≤ 7293034; omega)⟩⟩ d_La_law_298 (fun x3 G4 H locs hw hI => ?_)
      obtain ⟨h_x3, hM1, hf1⟩ := hw
      have hC := hC.fr hf1 hap
      have hU := hf1 _ _ hU hmu
      have hM := hM1
      refine lv_istore (lv' := [(6, .int x3), (5, .int x1), (4, .int y4), (3, .ref ou), (2, .ref o), (1, .ref (A 0 0)), (0, .ref b)]) hx hb d_La_law_301 hl (by decide) rfl (fun ls hl => ?_)
      refine lv_goto (tgt := 905) hx hb d_La_law_303 (by decide) ?_
      exact kk _ _ _ _ pm1 cnt1 fd1 tt1 xt1 li1 la1 B 1 f0 l0 g0 fu fn fx fi fl P (Nat.le_succ _) hC hM hU (hev.1.trans hT) hI (lv_sub hl [2, 3, 4, 5, 6] rfl)
    · have hokm : ¬ (xs (y4 + (1 : Int32)).toNatClampNeg) < 256 ∧ okW (xs (y4 + (7 : Int32)).toNatClampNeg) := ⟨fun h => hbm (Or.inl h), Classical.not_not.mp (fun h => hbm (Or.inr h))⟩
      obtain ⟨s1, hfi⟩ := isFi.ex fu fn (xs (y4 + (1 : Int32)).toNatClampNeg)
      by_cases hs1 : s1 < 16
      · have hIs := hI
        refine gw_Vi (As := [.int (xs (y4 + (1 : Int32)).toNatClampNeg), .long (((((xs (y4 + (2 : Int32)).toNatClampNeg)).toInt64) <<< (((32 : Int32)).toInt64 &&& 63)) ||| ((((xs (y4 + (3 : Int32)).toNatClampNeg)).toInt64) &&& (4294967295 : Int64))), .long (((((xs (y4 + (4 : Int32)).toNatClampNeg)).toInt64) <<< (((32 : Int32)).toInt64 &&& 63)) ||| ((((xs (y4 + (5 : Int32)).toNatClampNeg)).toInt64) &&& (4294967295 : Int64))), .int (xs (y4 + (6 : Int32)).toNatClampNeg), .int (xs (y4 + (7 : Int32)).toNatClampNeg), .int 0]) (rest := []) M hK hI (c_Mo_addk l o q B t0 f0 l0 g0 fu fn fx fi fl hM (xs (y4 + (1 : Int32)).toNatClampNeg) (((((xs (y4 + (2 : Int32)).toNatClampNeg)).toInt64) <<< (((32 : Int32)).toInt64 &&& 63)) ||| ((((xs (y4 + (3 : Int32)).toNatClampNeg)).toInt64) &&& (4294967295 : Int64))) (((((xs (y4 + (4 : Int32)).toNatClampNeg)).toInt64) <<< (((32 : Int32)).toInt64 &&& 63)) ||| ((((xs (y4 + (5 : Int32)).toNatClampNeg)).toInt64) &&& (4294967295 : Int64))) (xs (y4 + (6 : Int32)).toNatClampNeg) (xs (y4 + (7 : Int32)).toNatClampNeg) (0 : Int32) hokm s1 hfi hs1) k_Mo_add m_La_66 hM.O (ci := 6) rfl (fun x hx => ⟨_, hx⟩) rfl hl.1 rfl (Nat.le_of_ble_eq_true rfl) ⟨rfl, rfl, ⟨Nat.le_of_ble_eq_true rfl, Nat.le_of_ble_eq_true rfl⟩, ⟨(by show _ ≤ 601024; omega), (by show _ ≤ 7293034; omega)⟩⟩ d_La_law_298 (fun x5 G6 H locs hw hI => ?_)
        obtain ⟨h_x5, hM1, hf1⟩ := hw
        have hC := hC.fr hf1 hap
        have hU := hf1 _ _ hU hmu
        have hM := hM1
        refine lv_istore (lv' := [(6, .int x5), (5, .int x1), (4, .int y4), (3, .ref ou), (2, .ref o), (1, .ref (A 0 0)), (0, .ref b)]) hx hb d_La_law_301 hl (by decide) rfl (fun ls hl => ?_)
        refine lv_goto (tgt := 905) hx hb d_La_law_303 (by decide) ?_
        exact kk _ _ _ _ pm1 cnt1 fd1 tt1 xt1 li1 la1 B 0 f0 l0 g0 fu fn fx fi fl P (Nat.le_succ _) hC hM hU (hev.1.trans hT) hI (lv_sub hl [2, 3, 4, 5, 6] rfl)
      · have hfi := hfi.none hs1
        by_cases hall : ∀ j, j < 16 → ¬ fu j = 0
        · have hIs := hI
          refine gw_Vi (As := [.int (xs (y4 + (1 : Int32)).toNatClampNeg), .long (((((xs (y4 + (2 : Int32)).toNatClampNeg)).toInt64) <<< (((32 : Int32)).toInt64 &&& 63)) ||| ((((xs (y4 + (3 : Int32)).toNatClampNeg)).toInt64) &&& (4294967295 : Int64))), .long (((((xs (y4 + (4 : Int32)).toNatClampNeg)).toInt64) <<< (((32 : Int32)).toInt64 &&& 63)) ||| ((((xs (y4 + (5 : Int32)).toNatClampNeg)).toInt64) &&& (4294967295 : Int64))), .int (xs (y4 + (6 : Int32)).toNatClampNeg), .int (xs (y4 + (7 : Int32)).toNatClampNeg), .int 0]) (rest := []) M hK hI (c_Mo_addo l o q B t0 f0 l0 g0 fu fn fx fi fl hM (xs (y4 + (1 : Int32)).toNatClampNeg) (((((xs (y4 + (2 : Int32)).toNatClampNeg)).toInt64) <<< (((32 : Int32)).toInt64 &&& 63)) ||| ((((xs (y4 + (3 : Int32)).toNatClampNeg)).toInt64) &&& (4294967295 : Int64))) (((((xs (y4 + (4 : Int32)).toNatClampNeg)).toInt64) <<< (((32 : Int32)).toInt64 &&& 63)) ||| ((((xs (y4 + (5 : Int32)).toNatClampNeg)).toInt64) &&& (4294967295 : Int64))) (xs (y4 + (6 : Int32)).toNatClampNeg) (xs (y4 + (7 : Int32)).toNatClampNeg) (0 : Int32) hokm hfi hall) k_Mo_add m_La_66 hM.O (ci := 6) rfl (fun x hx => ⟨_, hx⟩) rfl hl.1 rfl (Nat.le_of_ble_eq_true rfl) ⟨rfl, rfl, ⟨Nat.le_of_ble_eq_true rfl, Nat.le_of_ble_eq_true rfl⟩, ⟨(by show _ ≤ 601024; omega), (by show _ ≤ 7293034; omega)⟩⟩ d_La_law_298 (fun x7 G8 H locs hw hI => ?_)
          obtain ⟨h_x7, hM1, hf1⟩ := hw
          have hC := hC.fr hf1 hap
          have hU := hf1 _ _ hU hmu
          have hM := hM1
          refine lv_istore (lv' := [(6, .int x7), (5, .int x1), (4, .int y4), (3, .ref ou), (2, .ref o), (1, .ref (A 0 0)), (0, .ref b)]) hx hb d_La_law_301 hl (by decide) rfl (fun ls hl => ?_)
          refine lv_goto (tgt := 905) hx hb d_La_law_303 (by decide) ?_
          exact kk _ _ _ _ pm1 cnt1 fd1 tt1 xt1 li1 la1 B 0 f0 l0 g0 fu fn fx fi fl P (Nat.le_succ _) hC hM hU (hev.1.trans hT) hI (lv_sub hl [2, 3, 4, 5, 6] rfl)
        · obtain ⟨sf, hsf, hz, hb4⟩ := ff_ex hall
          have hIs := hI
          refine gw_Vi (As := [.int (xs (y4 + (1 : Int32)).toNatClampNeg), .long (((((xs (y4 + (2 : Int32)).toNatClampNeg)).toInt64) <<< (((32 : Int32)).toInt64 &&& 63)) ||| ((((xs (y4 + (3 : Int32)).toNatClampNeg)).toInt64) &&& (4294967295 : Int64))), .long (((((xs (y4 + (4 : Int32)).toNatClampNeg)).toInt64) <<< (((32 : Int32)).toInt64 &&& 63)) ||| ((((xs (y4 + (5 : Int32)).toNatClampNeg)).toInt64) &&& (4294967295 : Int64))), .int (xs (y4 + (6 : Int32)).toNatClampNeg), .int (xs (y4 + (7 : Int32)).toNatClampNeg), .int 0]) (rest := []) M hK hI (c_Mo_add l o q B t0 f0 l0 g0 fu fn fx fi fl hM (xs (y4 + (1 : Int32)).toNatClampNeg) (((((xs (y4 + (2 : Int32)).toNatClampNeg)).toInt64) <<< (((32 : Int32)).toInt64 &&& 63)) ||| ((((xs (y4 + (3 : Int32)).toNatClampNeg)).toInt64) &&& (4294967295 : Int64))) (((((xs (y4 + (4 : Int32)).toNatClampNeg)).toInt64) <<< (((32 : Int32)).toInt64 &&& 63)) ||| ((((xs (y4 + (5 : Int32)).toNatClampNeg)).toInt64) &&& (4294967295 : Int64))) (xs (y4 + (6 : Int32)).toNatClampNeg) (xs (y4 + (7 : Int32)).toNatClampNeg) (0 : Int32) hokm hfi (Or.inl rfl) sf hsf hz hb4) k_Mo_add m_La_66 hM.O (ci := 6) rfl (fun x hx => ⟨_, hx⟩) rfl hl.1 rfl (Nat.le_of_ble_eq_true rfl) ⟨rfl, rfl, ⟨Nat.le_of_ble_eq_true rfl, Nat.le_of_ble_eq_true rfl⟩, ⟨(by show _ ≤ 601024; omega), (by show _ ≤ 7293034; omega)⟩⟩ d_La_law_298 (fun x9 G10 H locs hw hI => ?_)
          obtain ⟨h_x9, hM1, hf1⟩ := hw
          have hC := hC.fr hf1 hap
          have hU := hf1 _ _ hU hmu
          have hM := hM1
          refine lv_istore (lv' := [(6, .int x9), (5, .int x1), (4, .int y4), (3, .ref ou), (2, .ref o), (1, .ref (A 0 0)), (0, .ref b)]) hx hb d_La_law_301 hl (by decide) rfl (fun ls hl => ?_)
          refine lv_goto (tgt := 905) hx hb d_La_law_303 (by decide) ?_
          exact kk _ _ _ _ pm1 cnt1 fd1 tt1 xt1 li1 la1 B 0 f0 l0 g0 (upd fu sf 1) (upd fn sf (xs (y4 + (1 : Int32)).toNatClampNeg)) (upd fx sf (0 : Int32)) (upd fi sf 1000000000) (vp_updL fl sf 0) P (Nat.le_succ _) hC hM hU (hev.1.trans hT) hI (lv_sub hl [2, 3, 4, 5, 6] rfl)
  · have hn8 := c_204
    refine lv_iconst (v := 1) hx hb d_La_law_207 (by decide) ?_
    refine lv_goto (tgt := 212) hx hb d_La_law_208 (by decide) ?_
    refine lv_aload_n hx hb d_La_law_212 rfl (lv_at hl 1 rfl) ?_
    have hIs := hI
    refine gw_Wi (As := [.ref (A 0 0), .int (xs (y4 + (1 : Int32)).toNatClampNeg), .long (((((xs (y4 + (2 : Int32)).toNatClampNeg)).toInt64) <<< (((32 : Int32)).toInt64 &&& 63)) ||| ((((xs (y4 + (3 : Int32)).toNatClampNeg)).toInt64) &&& (4294967295 : Int64))), .long (((((xs (y4 + (4 : Int32)).toNatClampNeg)).toInt64) <<< (((32 : Int32)).toInt64 &&& 63)) ||| ((((xs (y4 + (5 : Int32)).toNatClampNeg)).toInt64) &&& (4294967295 : Int64))), .int (xs (y4 + (6 : Int32)).toNatClampNeg), .int (xs (y4 + (7 : Int32)).toNatClampNeg), .int 1, .ref ou]) (rest := []) M hK hI (c_La_add l htr A pm cnt fd tt xt li la hC (xs (y4 + (1 : Int32)).toNatClampNeg) (((((xs (y4 + (2 : Int32)).toNatClampNeg)).toInt64) <<< (((32 : Int32)).toInt64 &&& 63)) ||| ((((xs (y4 + (3 : Int32)).toNatClampNeg)).toInt64) &&& (4294967295 : Int64))) (((((xs (y4 + (4 : Int32)).toNatClampNeg)).toInt64) <<< (((32 : Int32)).toInt64 &&& 63)) ||| ((((xs (y4 + (5 : Int32)).toNatClampNeg)).toInt64) &&& (4294967295 : Int64))) (xs (y4 + (6 : Int32)).toNatClampNeg) (xs (y4 + (7 : Int32)).toNatClampNeg) (1 : Int32) (Or.inr rfl) ou P hU) k_La_add m_La_61 rfl hl.1 rfl (Nat.le_of_ble_eq_true rfl) ⟨rfl, rfl, ⟨Nat.le_of_ble_eq_true rfl, Nat.le_of_ble_eq_true rfl⟩, ⟨(by show _ ≤ 601024; omega), (by show _ ≤ 7293034; omega)⟩⟩ d_La_law_213 (fun x11 G12 H locs hw hI => ?_)
    obtain ⟨pm1, cnt1, fd1, tt1, xt1, li1, la1, P1, hC1, hU1, hfr1, hev⟩ := hw
    have hM := hM.fr hfr1 (apU hap hmu)
    have hU := hU1
    have hC := hC1
    obtain ⟨P, hP⟩ : ∃ z, z = P1 := ⟨_, rfl⟩
    rw [← hP] at hU
    refine lv_istore (lv' := [(5, .int x11), (4, .int y4), (3, .ref ou), (2, .ref o), (1, .ref (A 0 0)), (0, .ref b)]) hx hb d_La_law_216 hl (by decide) rfl (fun ls hl => ?_)
    refine lv_aload_n hx hb d_La_law_218 rfl (lv_at hl 3 rfl) ?_
    refine lv_aload_n hx hb d_La_law_219 rfl (lv_at hl 5 rfl) ?_
    refine lv_iload hx hb d_La_law_220 (lv_at hl 1 rfl) ?_
    refine lv_iconst (v := 1) hx hb d_La_law_222 (by decide) ?_
    refine lv_iadd hx hb d_La_law_223 ?_
    refine va_sld hx hb hX hbl hbA hI.2 (nb_in (nb_add hy 1) (by omega) (by omega)) d_La_law_224 ?_
    refine lv_aload_n hx hb d_La_law_225 rfl (lv_at hl 5 rfl) ?_
    refine lv_iload hx hb d_La_law_226 (lv_at hl 1 rfl) ?_
    refine lv_iconst (v := 2) hx hb d_La_law_228 (by decide) ?_
    refine lv_iadd hx hb d_La_law_229 ?_
    refine va_sld hx hb hX hbl hbA hI.2 (nb_in (nb_add hy 2) (by omega) (by omega)) d_La_law_230 ?_
    refine lv_i2l hx hb d_La_law_231 rfl ?_
    refine lv_bipush (v := 32) hx hb d_La_law_232 (by decide) ?_
    refine lv_lshl hx hb d_La_law_234 rfl ?_
    refine lv_aload_n hx hb d_La_law_235 rfl (lv_at hl 5 rfl) ?_
    refine lv_iload hx hb d_La_law_236 (lv_at hl 1 rfl) ?_
    refine lv_iconst (v := 3) hx hb d_La_law_238 (by decide) ?_
    refine lv_iadd hx hb d_La_law_239 ?_
    refine va_sld hx hb hX hbl hbA hI.2 (nb_in (nb_add hy 3) (by omega) (by omega)) d_La_law_240 ?_
    refine lv_i2l hx hb d_La_law_241 rfl ?_
    refine lv_ldc2 (v := 4294967295) hx hb M.2.2.2.1 (M.2.2.2.2 _ o_La_59) d_La_law_242 ?_
    refine lv_land hx hb d_La_law_245 ?_
    refine lv_lor hx hb d_La_law_246 ?_
    refine lv_aload_n hx hb d_La_law_247 rfl (lv_at hl 5 rfl) ?_
    refine lv_iload hx hb d_La_law_248 (lv_at hl 1 rfl) ?_
    refine lv_iconst (v := 4) hx hb d_La_law_250 (by decide) ?_
    refine lv_iadd hx hb d_La_law_251 ?_
    refine va_sld hx hb hX hbl hbA hI.2 (nb_in (nb_add hy 4) (by omega) (by omega)) d_La_law_252 ?_
    refine lv_i2l hx hb d_La_law_253 rfl ?_
    refine lv_bipush (v := 32) hx hb d_La_law_254 (by decide) ?_
    refine lv_lshl hx hb d_La_law_256 rfl ?_
    refine lv_aload_n hx hb d_La_law_257 rfl (lv_at hl 5 rfl) ?_
    refine lv_iload hx hb d_La_law_258 (lv_at hl 1 rfl) ?_
    refine lv_iconst (v := 5) hx hb d_La_law_260 (by decide) ?_
    refine lv_iadd hx hb d_La_law_261 ?_
    refine va_sld hx hb hX hbl hbA hI.2 (nb_in (nb_add hy 5) (by omega) (by omega)) d_La_law_262 ?_
    refine lv_i2l hx hb d_La_law_263 rfl ?_
    refine lv_ldc2 (v := 4294967295) hx hb M.2.2.2.1 (M.2.2.2.2 _ o_La_59) d_La_law_264 ?_
    refine lv_land hx hb d_La_law_267 ?_
    refine lv_lor hx hb d_La_law_268 ?_
    refine lv_aload_n hx hb d_La_law_269 rfl (lv_at hl 5 rfl) ?_
    refine lv_iload hx hb d_La_law_270 (lv_at hl 1 rfl) ?_
    refine lv_bipush (v := 6) hx hb d_La_law_272 (by decide) ?_
    refine lv_iadd hx hb d_La_law_274 ?_
    refine va_sld hx hb hX hbl hbA hI.2 (nb_in (nb_add hy 6) (by omega) (by omega)) d_La_law_275 ?_
    refine lv_aload_n hx hb d_La_law_276 rfl (lv_at hl 5 rfl) ?_
    refine lv_iload hx hb d_La_law_277 (lv_at hl 1 rfl) ?_
    refine lv_bipush (v := 7) hx hb d_La_law_279 (by decide) ?_
    refine lv_iadd hx hb d_La_law_281 ?_
    refine va_sld hx hb hX hbl hbA hI.2 (nb_in (nb_add hy 7) (by omega) (by omega)) d_La_law_282 ?_
    refine lv_aload_n hx hb d_La_law_283 rfl (lv_at hl 5 rfl) ?_
    refine lv_iload hx hb d_La_law_284 (lv_at hl 1 rfl) ?_
    refine lv_bipush (v := 8) hx hb d_La_law_286 (by decide) ?_
    refine lv_iadd hx hb d_La_law_288 ?_
    refine va_sld hx hb hX hbl hbA hI.2 (nb_in (nb_add hy 8) (by omega) (by omega)) d_La_law_289 ?_
    refine lv_if_eq (tgt := 297) hx hb d_La_law_290 (by decide) (fun q9 => absurd q9 hn8) (fun c_290 => ?_)
    refine lv_iconst (v := 1) hx hb d_La_law_293 (by decide) ?_
    refine lv_goto (tgt := 298) hx hb d_La_law_294 (by decide) ?_
    by_cases hbm : (xs (y4 + (1 : Int32)).toNatClampNeg) < 256 ∨ ¬ okW (xs (y4 + (7 : Int32)).toNatClampNeg)
    · have hIs := hI
      refine gw_Vi (As := [.int (xs (y4 + (1 : Int32)).toNatClampNeg), .long (((((xs (y4 + (2 : Int32)).toNatClampNeg)).toInt64) <<< (((32 : Int32)).toInt64 &&& 63)) ||| ((((xs (y4 + (3 : Int32)).toNatClampNeg)).toInt64) &&& (4294967295 : Int64))), .long (((((xs (y4 + (4 : Int32)).toNatClampNeg)).toInt64) <<< (((32 : Int32)).toInt64 &&& 63)) ||| ((((xs (y4 + (5 : Int32)).toNatClampNeg)).toInt64) &&& (4294967295 : Int64))), .int (xs (y4 + (6 : Int32)).toNatClampNeg), .int (xs (y4 + (7 : Int32)).toNatClampNeg), .int 1]) (rest := []) M hK hI (c_Mo_addb l o q B t0 f0 l0 g0 fu fn fx fi fl hM (xs (y4 + (1 : Int32)).toNatClampNeg) (((((xs (y4 + (2 : Int32)).toNatClampNeg)).toInt64) <<< (((32 : Int32)).toInt64 &&& 63)) ||| ((((xs (y4 + (3 : Int32)).toNatClampNeg)).toInt64) &&& (4294967295 : Int64))) (((((xs (y4 + (4 : Int32)).toNatClampNeg)).toInt64) <<< (((32 : Int32)).toInt64 &&& 63)) ||| ((((xs (y4 + (5 : Int32)).toNatClampNeg)).toInt64) &&& (4294967295 : Int64))) (xs (y4 + (6 : Int32)).toNatClampNeg) (xs (y4 + (7 : Int32)).toNatClampNeg) (1 : Int32) hbm) k_Mo_add m_La_66 hM.O (ci := 6) rfl (fun x hx => ⟨_, hx⟩) rfl hl.1 rfl (Nat.le_of_ble_eq_true rfl) ⟨rfl, rfl, ⟨Nat.le_of_ble_eq_true rfl, Nat.le_of_ble_eq_true rfl⟩, ⟨(by show _ ≤ 601024; omega), (by show _ ≤ 7293034; omega)⟩⟩ d_La_law_298 (fun x13 G14 H locs hw hI => ?_)
      obtain ⟨h_x13, hM1, hf1⟩ := hw
      have hC := hC.fr hf1 hap
      have hU := hf1 _ _ hU hmu
      have hM := hM1
      refine lv_istore (lv' := [(6, .int x13), (5, .int x11), (4, .int y4), (3, .ref ou), (2, .ref o), (1, .ref (A 0 0)), (0, .ref b)]) hx hb d_La_law_301 hl (by decide) rfl (fun ls hl => ?_)
      refine lv_goto (tgt := 905) hx hb d_La_law_303 (by decide) ?_
      exact kk _ _ _ _ pm1 cnt1 fd1 tt1 xt1 li1 la1 B 1 f0 l0 g0 fu fn fx fi fl P (Nat.le_succ _) hC hM hU (hev.1.trans hT) hI (lv_sub hl [2, 3, 4, 5, 6] rfl)
    · have hokm : ¬ (xs (y4 + (1 : Int32)).toNatClampNeg) < 256 ∧ okW (xs (y4 + (7 : Int32)).toNatClampNeg) := ⟨fun h => hbm (Or.inl h), Classical.not_not.mp (fun h => hbm (Or.inr h))⟩
      obtain ⟨s1, hfi⟩ := isFi.ex fu fn (xs (y4 + (1 : Int32)).toNatClampNeg)
      by_cases hs1 : s1 < 16
      · have hIs := hI
        refine gw_Vi (As := [.int (xs (y4 + (1 : Int32)).toNatClampNeg), .long (((((xs (y4 + (2 : Int32)).toNatClampNeg)).toInt64) <<< (((32 : Int32)).toInt64 &&& 63)) ||| ((((xs (y4 + (3 : Int32)).toNatClampNeg)).toInt64) &&& (4294967295 : Int64))), .long (((((xs (y4 + (4 : Int32)).toNatClampNeg)).toInt64) <<< (((32 : Int32)).toInt64 &&& 63)) ||| ((((xs (y4 + (5 : Int32)).toNatClampNeg)).toInt64) &&& (4294967295 : Int64))), .int (xs (y4 + (6 : Int32)).toNatClampNeg), .int (xs (y4 + (7 : Int32)).toNatClampNeg), .int 1]) (rest := []) M hK hI (c_Mo_addk l o q B t0 f0 l0 g0 fu fn fx fi fl hM (xs (y4 + (1 : Int32)).toNatClampNeg) (((((xs (y4 + (2 : Int32)).toNatClampNeg)).toInt64) <<< (((32 : Int32)).toInt64 &&& 63)) ||| ((((xs (y4 + (3 : Int32)).toNatClampNeg)).toInt64) &&& (4294967295 : Int64))) (((((xs (y4 + (4 : Int32)).toNatClampNeg)).toInt64) <<< (((32 : Int32)).toInt64 &&& 63)) ||| ((((xs (y4 + (5 : Int32)).toNatClampNeg)).toInt64) &&& (4294967295 : Int64))) (xs (y4 + (6 : Int32)).toNatClampNeg) (xs (y4 + (7 : Int32)).toNatClampNeg) (1 : Int32) hokm s1 hfi hs1) k_Mo_add m_La_66 hM.O (ci := 6) rfl (fun x hx => ⟨_, hx⟩) rfl hl.1 rfl (Nat.le_of_ble_eq_true rfl) ⟨rfl, rfl, ⟨Nat.le_of_ble_eq_true rfl, Nat.le_of_ble_eq_true rfl⟩, ⟨(by show _ ≤ 601024; omega), (by show _ ≤ 7293034; omega)⟩⟩ d_La_law_298 (fun x15 G16 H locs hw hI => ?_)
        obtain ⟨h_x15, hM1, hf1⟩ := hw
        have hC := hC.fr hf1 hap
        have hU := hf1 _ _ hU hmu
        have hM := hM1
        refine lv_istore (lv' := [(6, .int x15), (5, .int x11), (4, .int y4), (3, .ref ou), (2, .ref o), (1, .ref (A 0 0)), (0, .ref b)]) hx hb d_La_law_301 hl (by decide) rfl (fun ls hl => ?_)
        refine lv_goto (tgt := 905) hx hb d_La_law_303 (by decide) ?_
        exact kk _ _ _ _ pm1 cnt1 fd1 tt1 xt1 li1 la1 B 0 f0 l0 g0 fu fn fx fi fl P (Nat.le_succ _) hC hM hU (hev.1.trans hT) hI (lv_sub hl [2, 3, 4, 5, 6] rfl)
      · have hfi := hfi.none hs1
        by_cases hall : ∀ j, j < 16 → ¬ fu j = 0
        · have hIs := hI
          refine gw_Vi (As := [.int (xs (y4 + (1 : Int32)).toNatClampNeg), .long (((((xs (y4 + (2 : Int32)).toNatClampNeg)).toInt64) <<< (((32 : Int32)).toInt64 &&& 63)) ||| ((((xs (y4 + (3 : Int32)).toNatClampNeg)).toInt64) &&& (4294967295 : Int64))), .long (((((xs (y4 + (4 : Int32)).toNatClampNeg)).toInt64) <<< (((32 : Int32)).toInt64 &&& 63)) ||| ((((xs (y4 + (5 : Int32)).toNatClampNeg)).toInt64) &&& (4294967295 : Int64))), .int (xs (y4 + (6 : Int32)).toNatClampNeg), .int (xs (y4 + (7 : Int32)).toNatClampNeg), .int 1]) (rest := []) M hK hI (c_Mo_addo l o q B t0 f0 l0 g0 fu fn fx fi fl hM (xs (y4 + (1 : Int32)).toNatClampNeg) (((((xs (y4 + (2 : Int32)).toNatClampNeg)).toInt64) <<< (((32 : Int32)).toInt64 &&& 63)) ||| ((((xs (y4 + (3 : Int32)).toNatClampNeg)).toInt64) &&& (4294967295 : Int64))) (((((xs (y4 + (4 : Int32)).toNatClampNeg)).toInt64) <<< (((32 : Int32)).toInt64 &&& 63)) ||| ((((xs (y4 + (5 : Int32)).toNatClampNeg)).toInt64) &&& (4294967295 : Int64))) (xs (y4 + (6 : Int32)).toNatClampNeg) (xs (y4 + (7 : Int32)).toNatClampNeg) (1 : Int32) hokm hfi hall) k_Mo_add m_La_66 hM.O (ci := 6) rfl (fun x hx => ⟨_, hx⟩) rfl hl.1 rfl (Nat.le_of_ble_eq_true rfl) ⟨rfl, rfl, ⟨Nat.le_of_ble_eq_true rfl, Nat.le_of_ble_eq_true rfl⟩, ⟨(by show _ ≤ 601024; omega), (by show _ ≤ 7293034; omega)⟩⟩ d_La_law_298 (fun x17 G18 H locs hw hI => ?_)
          obtain ⟨h_x17, hM1, hf1⟩ := hw
          have hC := hC.fr hf1 hap
          have hU := hf1 _ _ hU hmu
          have hM := hM1
          refine lv_istore (lv' := [(6, .int x17), (5, .int x11), (4, .int y4), (3, .ref ou), (2, .ref o), (1, .ref (A 0 0)), (0, .ref b)]) hx hb d_La_law_301 hl (by decide) rfl (fun ls hl => ?_)
          refine lv_goto (tgt := 905) hx hb d_La_law_303 (by decide) ?_
          exact kk _ _ _ _ pm1 cnt1 fd1 tt1 xt1 li1 la1 B 0 f0 l0 g0 fu fn fx fi fl P (Nat.le_succ _) hC hM hU (hev.1.trans hT) hI (lv_sub hl [2, 3, 4, 5, 6] rfl)
        · obtain ⟨sf, hsf, hz, hb4⟩ := ff_ex hall
          have hIs := hI
          refine gw_Vi (As := [.int (xs (y4 + (1 : Int32)).toNatClampNeg), .long (((((xs (y4 + (2 : Int32)).toNatClampNeg)).toInt64) <<< (((32 : Int32)).toInt64 &&& 63)) ||| ((((xs (y4 + (3 : Int32)).toNatClampNeg)).toInt64) &&& (4294967295 : Int64))), .long (((((xs (y4 + (4 : Int32)).toNatClampNeg)).toInt64) <<< (((32 : Int32)).toInt64 &&& 63)) ||| ((((xs (y4 + (5 : Int32)).toNatClampNeg)).toInt64) &&& (4294967295 : Int64))), .int (xs (y4 + (6 : Int32)).toNatClampNeg), .int (xs (y4 + (7 : Int32)).toNatClampNeg), .int 1]) (rest := []) M hK hI (c_Mo_add l o q B t0 f0 l0 g0 fu fn fx fi fl hM (xs (y4 + (1 : Int32)).toNatClampNeg) (((((xs (y4 + (2 : Int32)).toNatClampNeg)).toInt64) <<< (((32 : Int32)).toInt64 &&& 63)) ||| ((((xs (y4 + (3 : Int32)).toNatClampNeg)).toInt64) &&& (4294967295 : Int64))) (((((xs (y4 + (4 : Int32)).toNatClampNeg)).toInt64) <<< (((32 : Int32)).toInt64 &&& 63)) ||| ((((xs (y4 + (5 : Int32)).toNatClampNeg)).toInt64) &&& (4294967295 : Int64))) (xs (y4 + (6 : Int32)).toNatClampNeg) (xs (y4 + (7 : Int32)).toNatClampNeg) (1 : Int32) hokm hfi (Or.inr rfl) sf hsf hz hb4) k_Mo_add m_La_66 hM.O (ci := 6) rfl (fun x hx => ⟨_, hx⟩) rfl hl.1 rfl (Nat.le_of_ble_eq_true rfl) ⟨rfl, rfl, ⟨Nat.le_of_ble_eq_true rfl, Nat.le_of_ble_eq_true rfl⟩, ⟨(by show _ ≤ 601024; omega), (by show _ ≤ 7293034; omega)⟩⟩ d_La_law_298 (fun x19 G20 H locs hw hI => ?_)
          obtain ⟨h_x19, hM1, hf1⟩ := hw
          have hC := hC.fr hf1 hap
          have hU := hf1 _ _ hU hmu
          have hM := hM1
          refine lv_istore (lv' := [(6, .int x19), (5, .int x11), (4, .int y4), (3, .ref ou), (2, .ref o), (1, .ref (A 0 0)), (0, .ref b)]) hx hb d_La_law_301 hl (by decide) rfl (fun ls hl => ?_)
          refine lv_goto (tgt := 905) hx hb d_La_law_303 (by decide) ?_
          exact kk _ _ _ _ pm1 cnt1 fd1 tt1 xt1 li1 la1 B 0 f0 l0 g0 (upd fu sf 1) (upd fn sf (xs (y4 + (1 : Int32)).toNatClampNeg)) (upd fx sf (1 : Int32)) (upd fi sf 1000000000) (vp_updL fl sf 0) P (Nat.le_succ _) hC hM hU (hev.1.trans hT) hI (lv_sub hl [2, 3, 4, 5, 6] rfl)

set_option maxHeartbeats 4000000 in
set_option maxRecDepth 100000 in
theorem law_1 {p : Program} {l : Launch} {e : Env} {s : State} {m : MethodId} {below : List Frame} {meth : Method} {c : Code} {b L : Nat} {xs : Nat → Int32} (C0 : lw_At p s m meth c b L xs) (htr : l.stackTraces = false) {D : gw_D} (hK : gw_K D s.heap s) (hL : L ≤ 4608) {G : gw_G} {H : Heap} {locs : List Loc} {A : Nat → Nat → Nat} {o ou : Nat} {q : Nat → Nat} {P : Int64 → Prop} {pm : Nat → Nat} {cnt fd : Nat} {tt xt li : Nat → Int32} {la : Nat → Int64} {B : Nat} {t0 : Int32} {f0 l0 g0 : Nat} {fu fn fx fi : Nat → Int32} {fl : Nat → Int64} (hC : cls D G A pm cnt fd tt xt li la) (hM : mdl D G o q B t0 f0 l0 g0 fu fn fx fi fl) (hU : G ou = some (kL D 1 P)) (hap : ∀ k i, inA k i → ¬ mown o q (A k i)) (hmu : ¬ mown o q ou) (hT : tie pm cnt fd tt xt li la t0 f0 l0 fu fn fx fi fl) (hB6 : B ≤ 600) {y4 : Int32} {j9 c0 s0 : Nat} (hy : y4 = nI j9) (h9 : j9 + 9 ≤ L) (hc0 : c0 ≤ 1000) (hs0 : s0 ≤ 80000) (kk : lwK p l e s m below meth c b D A o q ou y4 c0 s0 B) (hI : gw_I D s.heap G s.heap H locs) (ls : Array Slot) (hl : lv_has ls 8 [(4, .int y4), (3, .ref ou), (2, .ref o), (1, .ref (A 0 0)), (0, .ref b)]) : W p l e room_1 s m #[Value.ref b] below meth c H locs c0 s0 (lw_Z below #[Value.ref b] s) (F0 m 306 ls []) := by
  obtain ⟨hx, hb, hr, hml, hown, hts, hX, hbl, hlocks, hgv⟩ := id C0
  have M : CallFix p m c b_La_law 8 s #[Value.ref b] tb R_La := ⟨hx, hb, hml, hown, fun w h => hts w (tb_in h)⟩
  have hbA : ¬ gw_A s.heap b := Nat.not_le.mpr hbl
  refine lv_aload_n hx hb d_La_law_306 rfl (lv_at hl 3 rfl) ?_
  refine lv_aload_n hx hb d_La_law_307 rfl (lv_at hl 4 rfl) ?_
  refine lv_iload hx hb d_La_law_308 (lv_at hl 0 rfl) ?_
  refine lv_iconst (v := 1) hx hb d_La_law_310 (by decide) ?_
  refine lv_iadd hx hb d_La_law_311 ?_
  refine va_sld hx hb hX hbl hbA hI.2 (nb_in (nb_add hy 1) (by omega) (by omega)) d_La_law_312 ?_
  obtain ⟨kp, hkp⟩ := isPl.ex (fun j => tt (pm j)) (xs (y4 + (1 : Int32)).toNatClampNeg) cnt
  by_cases hat : kp < cnt ∧ tt (pm kp) = (xs (y4 + (1 : Int32)).toNatClampNeg)
  · have hIs := hI
    refine gw_Vi (As := [.int (xs (y4 + (1 : Int32)).toNatClampNeg)]) (rest := []) M hK hI (c_Gp_drop l A pm cnt fd tt xt li la hC (xs (y4 + (1 : Int32)).toNatClampNeg) kp hkp hat) k_Gp_drop m_La_67 hC.O (ci := 5) rfl (fun x hx => ⟨_, hx⟩) rfl hl.1 rfl (Nat.le_of_ble_eq_true rfl) ⟨rfl, rfl, ⟨Nat.le_of_ble_eq_true rfl, Nat.le_of_ble_eq_true rfl⟩, ⟨(by show _ ≤ 601024; omega), (by show _ ≤ 7293034; omega)⟩⟩ d_La_law_313 (fun x1 G2 H locs hw hI => ?_)
    obtain ⟨h_x1, hC1, hfr1⟩ := hw
    have hM := hM.fr hfr1 (apO hap)
    have hU := hfr1 _ _ hU (hC.nown hIs hU gt_L (Or.inl rfl))
    have hC := hC1
    refine lv_pop hx hb d_La_law_316 rfl ?_
    refine lv_aload_n hx hb d_La_law_317 rfl (lv_at hl 2 rfl) ?_
    refine lv_aload_n hx hb d_La_law_318 rfl (lv_at hl 4 rfl) ?_
    refine lv_iload hx hb d_La_law_319 (lv_at hl 0 rfl) ?_
    refine lv_iconst (v := 1) hx hb d_La_law_321 (by decide) ?_
    refine lv_iadd hx hb d_La_law_322 ?_
    refine va_sld hx hb hX hbl hbA hI.2 (nb_in (nb_add hy 1) (by omega) (by omega)) d_La_law_323 ?_
    obtain ⟨s1, hfi⟩ := isFi.ex fu fn (xs (y4 + (1 : Int32)).toNatClampNeg)
    by_cases hs1 : s1 < 16
    · have hIs := hI
      refine gw_Vi (As := [.int (xs (y4 + (1 : Int32)).toNatClampNeg)]) (rest := []) M hK hI (c_Mo_dropf l o q B t0 f0 l0 g0 fu fn fx fi fl hM (xs (y4 + (1 : Int32)).toNatClampNeg) s1 hfi hs1) k_Mo_drop m_La_71 hM.O (ci := 6) rfl (fun x hx => ⟨_, hx⟩) rfl hl.1 rfl (Nat.le_of_ble_eq_true rfl) ⟨rfl, rfl, ⟨Nat.le_of_ble_eq_true rfl, Nat.le_of_ble_eq_true rfl⟩, ⟨(by show _ ≤ 601024; omega), (by show _ ≤ 7293034; omega)⟩⟩ d_La_law_324 (fun x3 G4 H locs hw hI => ?_)
      obtain ⟨h_x3, hM1, hf1⟩ := hw
      have hC := hC.fr hf1 hap
      have hU := hf1 _ _ hU hmu
      have hM := hM1
      refine lv_pop hx hb d_La_law_327 rfl ?_
      refine lv_goto (tgt := 905) hx hb d_La_law_328 (by decide) ?_
      refine W.widen (k := c0 + 1) (n := s0 + 6) (Nat.le_add_right _ _) (Nat.le_add_right _ _) ?_
      exact kk _ _ _ _ (fun j => pm (sf kp cnt j)) (cnt - 1) fd tt xt li la B 0 f0 l0 g0 (upd fu s1 0) fn fx fi fl P (Nat.le_succ _) hC hM hU hT hI (lv_sub hl [0, 1, 2, 3, 4] rfl)
    · have hfi := hfi.none hs1
      have hIs := hI
      refine gw_Vi (As := [.int (xs (y4 + (1 : Int32)).toNatClampNeg)]) (rest := []) M hK hI (c_Mo_dropn l o q B t0 f0 l0 g0 fu fn fx fi fl hM (xs (y4 + (1 : Int32)).toNatClampNeg) hfi) k_Mo_drop m_La_71 hM.O (ci := 6) rfl (fun x hx => ⟨_, hx⟩) rfl hl.1 rfl (Nat.le_of_ble_eq_true rfl) ⟨rfl, rfl, ⟨Nat.le_of_ble_eq_true rfl, Nat.le_of_ble_eq_true rfl⟩, ⟨(by show _ ≤ 601024; omega), (by show _ ≤ 7293034; omega)⟩⟩ d_La_law_324 (fun x5 G6 H locs hw hI => ?_)
      obtain ⟨h_x5, hM1, hf1⟩ := hw
      have hC := hC.fr hf1 hap
      have hU := hf1 _ _ hU hmu
      have hM := hM1
      refine lv_pop hx hb d_La_law_327 rfl ?_
      refine lv_goto (tgt := 905) hx hb d_La_law_328 (by decide) ?_
      refine W.widen (k := c0 + 1) (n := s0 + 6) (Nat.le_add_right _ _) (Nat.le_add_right _ _) ?_
      exact kk _ _ _ _ (fun j => pm (sf kp cnt j)) (cnt - 1) fd tt xt li la B 0 f0 l0 g0 fu fn fx fi fl P (Nat.le_succ _) hC hM hU hT hI (lv_sub hl [0, 1, 2, 3, 4] rfl)
  · have hIs := hI
    refine gw_Vi (As := [.int (xs (y4 + (1 : Int32)).toNatClampNeg)]) (rest := []) M hK hI (c_Gp_dropf l A pm cnt fd tt xt li la hC (xs (y4 + (1 : Int32)).toNatClampNeg) kp hkp hat) k_Gp_drop m_La_67 hC.O (ci := 5) rfl (fun x hx => ⟨_, hx⟩) rfl hl.1 rfl (Nat.le_of_ble_eq_true rfl) ⟨rfl, rfl, ⟨Nat.le_of_ble_eq_true rfl, Nat.le_of_ble_eq_true rfl⟩, ⟨(by show _ ≤ 601024; omega), (by show _ ≤ 7293034; omega)⟩⟩ d_La_law_313 (fun x7 G8 H locs hw hI => ?_)
    obtain ⟨h_x7, hw⟩ := hw
    rw [hw] at hI
    refine lv_pop hx hb d_La_law_316 rfl ?_
    refine lv_aload_n hx hb d_La_law_317 rfl (lv_at hl 2 rfl) ?_
    refine lv_aload_n hx hb d_La_law_318 rfl (lv_at hl 4 rfl) ?_
    refine lv_iload hx hb d_La_law_319 (lv_at hl 0 rfl) ?_
    refine lv_iconst (v := 1) hx hb d_La_law_321 (by decide) ?_
    refine lv_iadd hx hb d_La_law_322 ?_
    refine va_sld hx hb hX hbl hbA hI.2 (nb_in (nb_add hy 1) (by omega) (by omega)) d_La_law_323 ?_
    obtain ⟨s1, hfi⟩ := isFi.ex fu fn (xs (y4 + (1 : Int32)).toNatClampNeg)
    by_cases hs1 : s1 < 16
    · have hIs := hI
      refine gw_Vi (As := [.int (xs (y4 + (1 : Int32)).toNatClampNeg)]) (rest := []) M hK hI (c_Mo_dropf l o q B t0 f0 l0 g0 fu fn fx fi fl hM (xs (y4 + (1 : Int32)).toNatClampNeg) s1 hfi hs1) k_Mo_drop m_La_71 hM.O (ci := 6) rfl (fun x hx => ⟨_, hx⟩) rfl hl.1 rfl (Nat.le_of_ble_eq_true rfl) ⟨rfl, rfl, ⟨Nat.le_of_ble_eq_true rfl, Nat.le_of_ble_eq_true rfl⟩, ⟨(by show _ ≤ 601024; omega), (by show _ ≤ 7293034; omega)⟩⟩ d_La_law_324 (fun x9 G10 H locs hw hI => ?_)
      obtain ⟨h_x9, hM1, hf1⟩ := hw
      have hC := hC.fr hf1 hap
      have hU := hf1 _ _ hU hmu
      have hM := hM1
      refine lv_pop hx hb d_La_law_327 rfl ?_
      refine lv_goto (tgt := 905) hx hb d_La_law_328 (by decide) ?_
      refine W.widen (k := c0 + 1) (n := s0 + 6) (Nat.le_add_right _ _) (Nat.le_add_right _ _) ?_
      exact kk _ _ _ _ pm cnt fd tt xt li la B 0 f0 l0 g0 (upd fu s1 0) fn fx fi fl P (Nat.le_succ _) hC hM hU hT hI (lv_sub hl [0, 1, 2, 3, 4] rfl)
    · have hfi := hfi.none hs1
      have hIs := hI
      refine gw_Vi (As := [.int (xs (y4 + (1 : Int32)).toNatClampNeg)]) (rest := []) M hK hI (c_Mo_dropn l o q B t0 f0 l0 g0 fu fn fx fi fl hM (xs (y4 + (1 : Int32)).toNatClampNeg) hfi) k_Mo_drop m_La_71 hM.O (ci := 6) rfl (fun x hx => ⟨_, hx⟩) rfl hl.1 rfl (Nat.le_of_ble_eq_true rfl) ⟨rfl, rfl, ⟨Nat.le_of_ble_eq_true rfl, Nat.le_of_ble_eq_true rfl⟩, ⟨(by show _ ≤ 601024; omega), (by show _ ≤ 7293034; omega)⟩⟩ d_La_law_324 (fun x11 G12 H locs hw hI => ?_)
      obtain ⟨h_x11, hM1, hf1⟩ := hw
      have hC := hC.fr hf1 hap
      have hU := hf1 _ _ hU hmu
      have hM := hM1
      refine lv_pop hx hb d_La_law_327 rfl ?_
      refine lv_goto (tgt := 905) hx hb d_La_law_328 (by decide) ?_
      refine W.widen (k := c0 + 1) (n := s0 + 6) (Nat.le_add_right _ _) (Nat.le_add_right _ _) ?_
      exact kk _ _ _ _ pm cnt fd tt xt li la B 0 f0 l0 g0 fu fn fx fi fl P (Nat.le_succ _) hC hM hU hT hI (lv_sub hl [0, 1, 2, 3, 4] rfl)

set_option maxHeartbeats 4000000 in
set_option maxRecDepth 100000 in
theorem law_2 {p : Program} {l : Launch} {e : Env} {s : State} {m : MethodId} {below : List Frame} {meth : Method} {c : Code} {b L : Nat} {xs : Nat → Int32} (C0 : lw_At p s m meth c b L xs) (htr : l.stackTraces = false) {D : gw_D} (hK : gw_K D s.heap s) (hL : L ≤ 4608) {G : gw_G} {H : Heap} {locs : List Loc} {A : Nat → Nat → Nat} {o ou : Nat} {q : Nat → Nat} {P : Int64 → Prop} {pm : Nat → Nat} {cnt fd : Nat} {tt xt li : Nat → Int32} {la : Nat → Int64} {B : Nat} {t0 : Int32} {f0 l0 g0 : Nat} {fu fn fx fi : Nat → Int32} {fl : Nat → Int64} (hC : cls D G A pm cnt fd tt xt li la) (hM : mdl D G o q B t0 f0 l0 g0 fu fn fx fi fl) (hU : G ou = some (kL D 1 P)) (hap : ∀ k i, inA k i → ¬ mown o q (A k i)) (hmu : ¬ mown o q ou) (hT : tie pm cnt fd tt xt li la t0 f0 l0 fu fn fx fi fl) (hB6 : B ≤ 600) {y4 : Int32} {j9 c0 s0 : Nat} (hy : y4 = nI j9) (h9 : j9 + 9 ≤ L) (hc0 : c0 ≤ 1000) (hs0 : s0 ≤ 80000) (kk : lwK p l e s m below meth c b D A o q ou y4 c0 s0 B) (hI : gw_I D s.heap G s.heap H locs) (ls : Array Slot) (hl : lv_has ls 8 [(4, .int y4), (3, .ref ou), (2, .ref o), (1, .ref (A 0 0)), (0, .ref b)]) : W p l e room_1 s m #[Value.ref b] below meth c H locs c0 s0 (lw_Z below #[Value.ref b] s) (F0 m 331 ls []) := by
  obtain ⟨hx, hb, hr, hml, hown, hts, hX, hbl, hlocks, hgv⟩ := id C0
  have M : CallFix p m c b_La_law 8 s #[Value.ref b] tb R_La := ⟨hx, hb, hml, hown, fun w h => hts w (tb_in h)⟩
  have hbA : ¬ gw_A s.heap b := Nat.not_le.mpr hbl
  refine lv_aload_n hx hb d_La_law_331 rfl (lv_at hl 3 rfl) ?_
  refine lv_aload_n hx hb d_La_law_332 rfl (lv_at hl 4 rfl) ?_
  refine lv_iload hx hb d_La_law_333 (lv_at hl 0 rfl) ?_
  refine lv_iconst (v := 1) hx hb d_La_law_335 (by decide) ?_
  refine lv_iadd hx hb d_La_law_336 ?_
  refine va_sld hx hb hX hbl hbA hI.2 (nb_in (nb_add hy 1) (by omega) (by omega)) d_La_law_337 ?_
  refine lv_aload_n hx hb d_La_law_338 rfl (lv_at hl 4 rfl) ?_
  refine lv_iload hx hb d_La_law_339 (lv_at hl 0 rfl) ?_
  refine lv_iconst (v := 2) hx hb d_La_law_341 (by decide) ?_
  refine lv_iadd hx hb d_La_law_342 ?_
  refine va_sld hx hb hX hbl hbA hI.2 (nb_in (nb_add hy 2) (by omega) (by omega)) d_La_law_343 ?_
  refine lv_i2l hx hb d_La_law_344 rfl ?_
  refine lv_bipush (v := 32) hx hb d_La_law_345 (by decide) ?_
  refine lv_lshl hx hb d_La_law_347 rfl ?_
  refine lv_aload_n hx hb d_La_law_348 rfl (lv_at hl 4 rfl) ?_
  refine lv_iload hx hb d_La_law_349 (lv_at hl 0 rfl) ?_
  refine lv_iconst (v := 3) hx hb d_La_law_351 (by decide) ?_
  refine lv_iadd hx hb d_La_law_352 ?_
  refine va_sld hx hb hX hbl hbA hI.2 (nb_in (nb_add hy 3) (by omega) (by omega)) d_La_law_353 ?_
  refine lv_i2l hx hb d_La_law_354 rfl ?_
  refine lv_ldc2 (v := 4294967295) hx hb M.2.2.2.1 (M.2.2.2.2 _ o_La_59) d_La_law_355 ?_
  refine lv_land hx hb d_La_law_358 ?_
  refine lv_lor hx hb d_La_law_359 ?_
  have hIs := hI
  refine gw_Wi (As := [.ref (A 0 0), .int (xs (y4 + (1 : Int32)).toNatClampNeg), .long (((((xs (y4 + (2 : Int32)).toNatClampNeg)).toInt64) <<< (((32 : Int32)).toInt64 &&& 63)) ||| ((((xs (y4 + (3 : Int32)).toNatClampNeg)).toInt64) &&& (4294967295 : Int64)))]) (rest := []) M hK hI (c_La_hurry l htr A pm cnt fd tt xt li la hC (xs (y4 + (1 : Int32)).toNatClampNeg) (((((xs (y4 + (2 : Int32)).toNatClampNeg)).toInt64) <<< (((32 : Int32)).toInt64 &&& 63)) ||| ((((xs (y4 + (3 : Int32)).toNatClampNeg)).toInt64) &&& (4294967295 : Int64)))) k_La_hurry m_La_72 rfl hl.1 rfl (Nat.le_of_ble_eq_true rfl) ⟨rfl, rfl, ⟨Nat.le_of_ble_eq_true rfl, Nat.le_of_ble_eq_true rfl⟩, ⟨(by show _ ≤ 601024; omega), (by show _ ≤ 7293034; omega)⟩⟩ d_La_law_360 (fun x1 G2 H locs hw hI => ?_)
  obtain ⟨pm1, cnt1, fd1, tt1, xt1, li1, la1, hC1, hfr1, hev⟩ := hw
  have hM := hM.fr hfr1 (apO hap)
  have hU := hfr1 _ _ hU (hC.nown hIs hU gt_L (Or.inl rfl))
  have hC := hC1
  refine lv_istore (lv' := [(5, .int x1), (4, .int y4), (3, .ref ou), (2, .ref o), (1, .ref (A 0 0)), (0, .ref b)]) hx hb d_La_law_363 hl (by decide) rfl (fun ls hl => ?_)
  refine lv_aload_n hx hb d_La_law_365 rfl (lv_at hl 3 rfl) ?_
  refine lv_aload_n hx hb d_La_law_366 rfl (lv_at hl 5 rfl) ?_
  refine lv_iload hx hb d_La_law_367 (lv_at hl 1 rfl) ?_
  refine lv_iconst (v := 1) hx hb d_La_law_369 (by decide) ?_
  refine lv_iadd hx hb d_La_law_370 ?_
  refine va_sld hx hb hX hbl hbA hI.2 (nb_in (nb_add hy 1) (by omega) (by omega)) d_La_law_371 ?_
  refine lv_aload_n hx hb d_La_law_372 rfl (lv_at hl 5 rfl) ?_
  refine lv_iload hx hb d_La_law_373 (lv_at hl 1 rfl) ?_
  refine lv_iconst (v := 2) hx hb d_La_law_375 (by decide) ?_
  refine lv_iadd hx hb d_La_law_376 ?_
  refine va_sld hx hb hX hbl hbA hI.2 (nb_in (nb_add hy 2) (by omega) (by omega)) d_La_law_377 ?_
  refine lv_i2l hx hb d_La_law_378 rfl ?_
  refine lv_bipush (v := 32) hx hb d_La_law_379 (by decide) ?_
  refine lv_lshl hx hb d_La_law_381 rfl ?_
  refine lv_aload_n hx hb d_La_law_382 rfl (lv_at hl 5 rfl) ?_
  refine lv_iload hx hb d_La_law_383 (lv_at hl 1 rfl) ?_
  refine lv_iconst (v := 3) hx hb d_La_law_385 (by decide) ?_
  refine lv_iadd hx hb d_La_law_386 ?_
  refine va_sld hx hb hX hbl hbA hI.2 (nb_in (nb_add hy 3) (by omega) (by omega)) d_La_law_387 ?_
  refine lv_i2l hx hb d_La_law_388 rfl ?_
  refine lv_ldc2 (v := 4294967295) hx hb M.2.2.2.1 (M.2.2.2.2 _ o_La_59) d_La_law_389 ?_
  refine lv_land hx hb d_La_law_392 ?_
  refine lv_lor hx hb d_La_law_393 ?_
  obtain ⟨s1, hfi⟩ := isFi.ex fu fn (xs (y4 + (1 : Int32)).toNatClampNeg)
  by_cases hs1 : s1 < 16
  · have hIs := hI
    refine gw_Vv (As := [.int (xs (y4 + (1 : Int32)).toNatClampNeg), .long (((((xs (y4 + (2 : Int32)).toNatClampNeg)).toInt64) <<< (((32 : Int32)).toInt64 &&& 63)) ||| ((((xs (y4 + (3 : Int32)).toNatClampNeg)).toInt64) &&& (4294967295 : Int64)))]) (rest := []) M hK hI (c_Mo_hurryf l o q B t0 f0 l0 g0 fu fn fx fi fl hM (xs (y4 + (1 : Int32)).toNatClampNeg) s1 hfi hs1 (((((xs (y4 + (2 : Int32)).toNatClampNeg)).toInt64) <<< (((32 : Int32)).toInt64 &&& 63)) ||| ((((xs (y4 + (3 : Int32)).toNatClampNeg)).toInt64) &&& (4294967295 : Int64)))) k_Mo_hurry m_La_75 hM.O (ci := 6) rfl (fun x hx => ⟨_, hx⟩) rfl hl.1 rfl (Nat.le_of_ble_eq_true rfl) ⟨rfl, rfl, ⟨Nat.le_of_ble_eq_true rfl, Nat.le_of_ble_eq_true rfl⟩, ⟨(by show _ ≤ 601024; omega), (by show _ ≤ 7293034; omega)⟩⟩ d_La_law_394 (fun G4 H locs hw hI => ?_)
    obtain ⟨hw, hf1⟩ := hw
    rcases hw with ⟨hbm, hM1⟩ | ⟨hbm, hM1⟩
    · have hC := hC.fr hf1 hap
      have hU := hf1 _ _ hU hmu
      have hM := hM1
      refine lv_goto (tgt := 905) hx hb d_La_law_397 (by decide) ?_
      exact kk _ _ _ _ pm1 cnt1 fd1 tt1 xt1 li1 la1 B 2 f0 l0 g0 fu fn fx fi fl P (Nat.le_succ _) hC hM hU (by obtain ⟨kp, hkp, e1, e2, e3, -⟩ := hev; exact e3.trans hT) hI (lv_sub hl [1, 2, 3, 4, 5] rfl)
    · have hC := hC.fr hf1 hap
      have hU := hf1 _ _ hU hmu
      have hM := hM1
      refine lv_goto (tgt := 905) hx hb d_La_law_397 (by decide) ?_
      exact kk _ _ _ _ pm1 cnt1 fd1 tt1 xt1 li1 la1 B 0 f0 l0 g0 fu fn fx fi (vp_updL fl s1 (((((xs (y4 + (2 : Int32)).toNatClampNeg)).toInt64) <<< (((32 : Int32)).toInt64 &&& 63)) ||| ((((xs (y4 + (3 : Int32)).toNatClampNeg)).toInt64) &&& (4294967295 : Int64)))) P (Nat.le_succ _) hC hM hU (by obtain ⟨kp, hkp, e1, e2, e3, -⟩ := hev; exact e3.trans hT) hI (lv_sub hl [1, 2, 3, 4, 5] rfl)
  · have hfi := hfi.none hs1
    have hIs := hI
    refine gw_Vv (As := [.int (xs (y4 + (1 : Int32)).toNatClampNeg), .long (((((xs (y4 + (2 : Int32)).toNatClampNeg)).toInt64) <<< (((32 : Int32)).toInt64 &&& 63)) ||| ((((xs (y4 + (3 : Int32)).toNatClampNeg)).toInt64) &&& (4294967295 : Int64)))]) (rest := []) M hK hI (c_Mo_hurryn l o q B t0 f0 l0 g0 fu fn fx fi fl hM (xs (y4 + (1 : Int32)).toNatClampNeg) hfi (((((xs (y4 + (2 : Int32)).toNatClampNeg)).toInt64) <<< (((32 : Int32)).toInt64 &&& 63)) ||| ((((xs (y4 + (3 : Int32)).toNatClampNeg)).toInt64) &&& (4294967295 : Int64)))) k_Mo_hurry m_La_75 hM.O (ci := 6) rfl (fun x hx => ⟨_, hx⟩) rfl hl.1 rfl (Nat.le_of_ble_eq_true rfl) ⟨rfl, rfl, ⟨Nat.le_of_ble_eq_true rfl, Nat.le_of_ble_eq_true rfl⟩, ⟨(by show _ ≤ 601024; omega), (by show _ ≤ 7293034; omega)⟩⟩ d_La_law_394 (fun G6 H locs hw hI => ?_)
    obtain ⟨hM1, hf1⟩ := hw
    have hC := hC.fr hf1 hap
    have hU := hf1 _ _ hU hmu
    have hM := hM1
    refine lv_goto (tgt := 905) hx hb d_La_law_397 (by decide) ?_
    exact kk _ _ _ _ pm1 cnt1 fd1 tt1 xt1 li1 la1 B 1 f0 l0 g0 fu fn fx fi fl P (Nat.le_succ _) hC hM hU (by obtain ⟨kp, hkp, e1, e2, e3, -⟩ := hev; exact e3.trans hT) hI (lv_sub hl [1, 2, 3, 4, 5] rfl)

set_option maxHeartbeats 4000000 in
set_option maxRecDepth 100000 in
theorem law_3 {p : Program} {l : Launch} {e : Env} {s : State} {m : MethodId} {below : List Frame} {meth : Method} {c : Code} {b L : Nat} {xs : Nat → Int32} (C0 : lw_At p s m meth c b L xs) (htr : l.stackTraces = false) {D : gw_D} (hK : gw_K D s.heap s) (hL : L ≤ 4608) {G : gw_G} {H : Heap} {locs : List Loc} {A : Nat → Nat → Nat} {o ou : Nat} {q : Nat → Nat} {P : Int64 → Prop} {pm : Nat → Nat} {cnt fd : Nat} {tt xt li : Nat → Int32} {la : Nat → Int64} {B : Nat} {t0 : Int32} {f0 l0 g0 : Nat} {fu fn fx fi : Nat → Int32} {fl : Nat → Int64} (hC : cls D G A pm cnt fd tt xt li la) (hM : mdl D G o q B t0 f0 l0 g0 fu fn fx fi fl) (hU : G ou = some (kL D 1 P)) (hap : ∀ k i, inA k i → ¬ mown o q (A k i)) (hmu : ¬ mown o q ou) (hT : tie pm cnt fd tt xt li la t0 f0 l0 fu fn fx fi fl) (hB6 : B ≤ 600) {y4 : Int32} {j9 c0 s0 : Nat} (hy : y4 = nI j9) (h9 : j9 + 9 ≤ L) (hc0 : c0 ≤ 1000) (hs0 : s0 ≤ 80000) (kk : lwK p l e s m below meth c b D A o q ou y4 c0 s0 B) (hI : gw_I D s.heap G s.heap H locs) (ls : Array Slot) (hl : lv_has ls 8 [(4, .int y4), (3, .ref ou), (2, .ref o), (1, .ref (A 0 0)), (0, .ref b)]) : W p l e room_1 s m #[Value.ref b] below meth c H locs c0 s0 (lw_Z below #[Value.ref b] s) (F0 m 400 ls []) := by
  obtain ⟨hx, hb, hr, hml, hown, hts, hX, hbl, hlocks, hgv⟩ := id C0
  have M : CallFix p m c b_La_law 8 s #[Value.ref b] tb R_La := ⟨hx, hb, hml, hown, fun w h => hts w (tb_in h)⟩
  have hbA : ¬ gw_A s.heap b := Nat.not_le.mpr hbl
  refine lv_aload_n hx hb d_La_law_400 rfl (lv_at hl 3 rfl) ?_
  refine lv_aload_n hx hb d_La_law_401 rfl (lv_at hl 4 rfl) ?_
  refine lv_iload hx hb d_La_law_402 (lv_at hl 0 rfl) ?_
  refine lv_iconst (v := 1) hx hb d_La_law_404 (by decide) ?_
  refine lv_iadd hx hb d_La_law_405 ?_
  refine va_sld hx hb hX hbl hbA hI.2 (nb_in (nb_add hy 1) (by omega) (by omega)) d_La_law_406 ?_
  refine lv_aload_n hx hb d_La_law_407 rfl (lv_at hl 4 rfl) ?_
  refine lv_iload hx hb d_La_law_408 (lv_at hl 0 rfl) ?_
  refine lv_iconst (v := 2) hx hb d_La_law_410 (by decide) ?_
  refine lv_iadd hx hb d_La_law_411 ?_
  refine va_sld hx hb hX hbl hbA hI.2 (nb_in (nb_add hy 2) (by omega) (by omega)) d_La_law_412 ?_
  refine lv_aload_n hx hb d_La_law_413 rfl (lv_at hl 1 rfl) ?_
  have hIs := hI
  refine gw_Wi (As := [.ref (A 0 0), .int (xs (y4 + (1 : Int32)).toNatClampNeg), .int (xs (y4 + (2 : Int32)).toNatClampNeg), .ref ou]) (rest := []) M hK hI (c_La_life l htr A pm cnt fd tt xt li la hC (xs (y4 + (1 : Int32)).toNatClampNeg) (xs (y4 + (2 : Int32)).toNatClampNeg) ou P hU) k_La_life m_La_76 rfl hl.1 rfl (Nat.le_of_ble_eq_true rfl) ⟨rfl, rfl, ⟨Nat.le_of_ble_eq_true rfl, Nat.le_of_ble_eq_true rfl⟩, ⟨(by show _ ≤ 601024; omega), (by show _ ≤ 7293034; omega)⟩⟩ d_La_law_414 (fun x1 G2 H locs hw hI => ?_)
  obtain ⟨pm1, cnt1, fd1, tt1, xt1, li1, la1, P1, hC1, hU1, hfr1, hev⟩ := hw
  have hM := hM.fr hfr1 (apU hap hmu)
  have hU := hU1
  have hC := hC1
  obtain ⟨P, hP⟩ : ∃ z, z = P1 := ⟨_, rfl⟩
  rw [← hP] at hU
  refine lv_istore (lv' := [(5, .int x1), (4, .int y4), (3, .ref ou), (2, .ref o), (1, .ref (A 0 0)), (0, .ref b)]) hx hb d_La_law_417 hl (by decide) rfl (fun ls hl => ?_)
  refine lv_aload_n hx hb d_La_law_419 rfl (lv_at hl 3 rfl) ?_
  refine lv_aload_n hx hb d_La_law_420 rfl (lv_at hl 5 rfl) ?_
  refine lv_iload hx hb d_La_law_421 (lv_at hl 1 rfl) ?_
  refine lv_iconst (v := 1) hx hb d_La_law_423 (by decide) ?_
  refine lv_iadd hx hb d_La_law_424 ?_
  refine va_sld hx hb hX hbl hbA hI.2 (nb_in (nb_add hy 1) (by omega) (by omega)) d_La_law_425 ?_
  refine lv_aload_n hx hb d_La_law_426 rfl (lv_at hl 5 rfl) ?_
  refine lv_iload hx hb d_La_law_427 (lv_at hl 1 rfl) ?_
  refine lv_iconst (v := 2) hx hb d_La_law_429 (by decide) ?_
  refine lv_iadd hx hb d_La_law_430 ?_
  refine va_sld hx hb hX hbl hbA hI.2 (nb_in (nb_add hy 2) (by omega) (by omega)) d_La_law_431 ?_
  obtain ⟨s1, hfi⟩ := isFi.ex fu fn (xs (y4 + (1 : Int32)).toNatClampNeg)
  by_cases hs1 : s1 < 16
  · have hIs := hI
    refine gw_Vi (As := [.int (xs (y4 + (1 : Int32)).toNatClampNeg), .int (xs (y4 + (2 : Int32)).toNatClampNeg)]) (rest := []) M hK hI (c_Mo_lifef l o q B t0 f0 l0 g0 fu fn fx fi fl hM (xs (y4 + (1 : Int32)).toNatClampNeg) s1 hfi hs1 (xs (y4 + (2 : Int32)).toNatClampNeg)) k_Mo_life m_La_79 hM.O (ci := 6) rfl (fun x hx => ⟨_, hx⟩) rfl hl.1 rfl (Nat.le_of_ble_eq_true rfl) ⟨rfl, rfl, ⟨Nat.le_of_ble_eq_true rfl, Nat.le_of_ble_eq_true rfl⟩, ⟨(by show _ ≤ 601024; omega), (by show _ ≤ 7293034; omega)⟩⟩ d_La_law_432 (fun x3 G4 H locs hw hI => ?_)
    obtain ⟨hw, hf1⟩ := hw
    rcases hw with ⟨hbm, hM1⟩ | ⟨hbm, h_x3, hM1⟩
    · have hC := hC.fr hf1 hap
      have hU := hf1 _ _ hU hmu
      have hM := hM1
      refine lv_istore (lv' := [(6, .int x3), (5, .int x1), (4, .int y4), (3, .ref ou), (2, .ref o), (1, .ref (A 0 0)), (0, .ref b)]) hx hb d_La_law_435 hl (by decide) rfl (fun ls hl => ?_)
      refine lv_goto (tgt := 905) hx hb d_La_law_437 (by decide) ?_
      exact kk _ _ _ _ pm1 cnt1 fd1 tt1 xt1 li1 la1 B 2 f0 l0 g0 fu fn fx fi fl P (Nat.le_succ _) hC hM hU (by obtain ⟨kp, hkp, e1, e2, e3, -⟩ := hev; exact e3.trans hT) hI (lv_sub hl [2, 3, 4, 5, 6] rfl)
    · have hC := hC.fr hf1 hap
      have hU := hf1 _ _ hU hmu
      have hM := hM1
      refine lv_istore (lv' := [(6, .int x3), (5, .int x1), (4, .int y4), (3, .ref ou), (2, .ref o), (1, .ref (A 0 0)), (0, .ref b)]) hx hb d_La_law_435 hl (by decide) rfl (fun ls hl => ?_)
      refine lv_goto (tgt := 905) hx hb d_La_law_437 (by decide) ?_
      exact kk _ _ _ _ pm1 cnt1 fd1 tt1 xt1 li1 la1 B 0 f0 l0 g0 fu fn fx (upd fi s1 (xs (y4 + (2 : Int32)).toNatClampNeg)) fl P (Nat.le_succ _) hC hM hU (by obtain ⟨kp, hkp, e1, e2, e3, -⟩ := hev; exact e3.trans hT) hI (lv_sub hl [2, 3, 4, 5, 6] rfl)
  · have hfi := hfi.none hs1
    have hIs := hI
    refine gw_Vi (As := [.int (xs (y4 + (1 : Int32)).toNatClampNeg), .int (xs (y4 + (2 : Int32)).toNatClampNeg)]) (rest := []) M hK hI (c_Mo_lifen l o q B t0 f0 l0 g0 fu fn fx fi fl hM (xs (y4 + (1 : Int32)).toNatClampNeg) hfi (xs (y4 + (2 : Int32)).toNatClampNeg)) k_Mo_life m_La_79 hM.O (ci := 6) rfl (fun x hx => ⟨_, hx⟩) rfl hl.1 rfl (Nat.le_of_ble_eq_true rfl) ⟨rfl, rfl, ⟨Nat.le_of_ble_eq_true rfl, Nat.le_of_ble_eq_true rfl⟩, ⟨(by show _ ≤ 601024; omega), (by show _ ≤ 7293034; omega)⟩⟩ d_La_law_432 (fun x5 G6 H locs hw hI => ?_)
    obtain ⟨hM1, hf1⟩ := hw
    have hC := hC.fr hf1 hap
    have hU := hf1 _ _ hU hmu
    have hM := hM1
    refine lv_istore (lv' := [(6, .int x5), (5, .int x1), (4, .int y4), (3, .ref ou), (2, .ref o), (1, .ref (A 0 0)), (0, .ref b)]) hx hb d_La_law_435 hl (by decide) rfl (fun ls hl => ?_)
    refine lv_goto (tgt := 905) hx hb d_La_law_437 (by decide) ?_
    exact kk _ _ _ _ pm1 cnt1 fd1 tt1 xt1 li1 la1 B 1 f0 l0 g0 fu fn fx fi fl P (Nat.le_succ _) hC hM hU (by obtain ⟨kp, hkp, e1, e2, e3, -⟩ := hev; exact e3.trans hT) hI (lv_sub hl [2, 3, 4, 5, 6] rfl)

set_option maxHeartbeats 4000000 in
set_option maxRecDepth 100000 in
theorem law_4 {p : Program} {l : Launch} {e : Env} {s : State} {m : MethodId} {below : List Frame} {meth : Method} {c : Code} {b L : Nat} {xs : Nat → Int32} (C0 : lw_At p s m meth c b L xs) (htr : l.stackTraces = false) {D : gw_D} (hK : gw_K D s.heap s) (hL : L ≤ 4608) {G : gw_G} {H : Heap} {locs : List Loc} {A : Nat → Nat → Nat} {o ou : Nat} {q : Nat → Nat} {P : Int64 → Prop} {pm : Nat → Nat} {cnt fd : Nat} {tt xt li : Nat → Int32} {la : Nat → Int64} {B : Nat} {t0 : Int32} {f0 l0 g0 : Nat} {fu fn fx fi : Nat → Int32} {fl : Nat → Int64} (hC : cls D G A pm cnt fd tt xt li la) (hM : mdl D G o q B t0 f0 l0 g0 fu fn fx fi fl) (hU : G ou = some (kL D 1 P)) (hap : ∀ k i, inA k i → ¬ mown o q (A k i)) (hmu : ¬ mown o q ou) (hT : tie pm cnt fd tt xt li la t0 f0 l0 fu fn fx fi fl) (hB6 : B ≤ 600) {y4 : Int32} {j9 c0 s0 : Nat} (hy : y4 = nI j9) (h9 : j9 + 9 ≤ L) (hc0 : c0 ≤ 1000) (hs0 : s0 ≤ 80000) (kk : lwK p l e s m below meth c b D A o q ou y4 c0 s0 B) (hI : gw_I D s.heap G s.heap H locs) (ls : Array Slot) (hl : lv_has ls 8 [(4, .int y4), (3, .ref ou), (2, .ref o), (1, .ref (A 0 0)), (0, .ref b)]) : W p l e room_1 s m #[Value.ref b] below meth c H locs c0 s0 (lw_Z below #[Value.ref b] s) (F0 m 440 ls []) := by
  obtain ⟨hx, hb, hr, hml, hown, hts, hX, hbl, hlocks, hgv⟩ := id C0
  have M : CallFix p m c b_La_law 8 s #[Value.ref b] tb R_La := ⟨hx, hb, hml, hown, fun w h => hts w (tb_in h)⟩
  have hbA : ¬ gw_A s.heap b := Nat.not_le.mpr hbl
  refine lv_aload_n hx hb d_La_law_440 rfl (lv_at hl 3 rfl) ?_
  refine lv_aload_n hx hb d_La_law_441 rfl (lv_at hl 4 rfl) ?_
  refine lv_iload hx hb d_La_law_442 (lv_at hl 0 rfl) ?_
  refine lv_iconst (v := 1) hx hb d_La_law_444 (by decide) ?_
  refine lv_iadd hx hb d_La_law_445 ?_
  refine va_sld hx hb hX hbl hbA hI.2 (nb_in (nb_add hy 1) (by omega) (by omega)) d_La_law_446 ?_
  refine lv_aload_n hx hb d_La_law_447 rfl (lv_at hl 4 rfl) ?_
  refine lv_iload hx hb d_La_law_448 (lv_at hl 0 rfl) ?_
  refine lv_iconst (v := 2) hx hb d_La_law_450 (by decide) ?_
  refine lv_iadd hx hb d_La_law_451 ?_
  refine va_sld hx hb hX hbl hbA hI.2 (nb_in (nb_add hy 2) (by omega) (by omega)) d_La_law_452 ?_
  refine lv_i2l hx hb d_La_law_453 rfl ?_
  refine lv_bipush (v := 32) hx hb d_La_law_454 (by decide) ?_
  refine lv_lshl hx hb d_La_law_456 rfl ?_
  refine lv_aload_n hx hb d_La_law_457 rfl (lv_at hl 4 rfl) ?_
  refine lv_iload hx hb d_La_law_458 (lv_at hl 0 rfl) ?_
  refine lv_iconst (v := 3) hx hb d_La_law_460 (by decide) ?_
  refine lv_iadd hx hb d_La_law_461 ?_
  refine va_sld hx hb hX hbl hbA hI.2 (nb_in (nb_add hy 3) (by omega) (by omega)) d_La_law_462 ?_
  refine lv_i2l hx hb d_La_law_463 rfl ?_
  refine lv_ldc2 (v := 4294967295) hx hb M.2.2.2.1 (M.2.2.2.2 _ o_La_59) d_La_law_464 ?_
  refine lv_land hx hb d_La_law_467 ?_
  refine lv_lor hx hb d_La_law_468 ?_
  refine lv_aload_n hx hb d_La_law_469 rfl (lv_at hl 1 rfl) ?_
  have hIs := hI
  refine gw_Wi (As := [.ref (A 0 0), .int (xs (y4 + (1 : Int32)).toNatClampNeg), .long (((((xs (y4 + (2 : Int32)).toNatClampNeg)).toInt64) <<< (((32 : Int32)).toInt64 &&& 63)) ||| ((((xs (y4 + (3 : Int32)).toNatClampNeg)).toInt64) &&& (4294967295 : Int64))), .ref ou]) (rest := []) M hK hI (c_La_feed l htr A pm cnt fd tt xt li la hC (xs (y4 + (1 : Int32)).toNatClampNeg) (((((xs (y4 + (2 : Int32)).toNatClampNeg)).toInt64) <<< (((32 : Int32)).toInt64 &&& 63)) ||| ((((xs (y4 + (3 : Int32)).toNatClampNeg)).toInt64) &&& (4294967295 : Int64))) ou P hU) k_La_feed m_La_80 rfl hl.1 rfl (Nat.le_of_ble_eq_true rfl) ⟨rfl, rfl, ⟨Nat.le_of_ble_eq_true rfl, Nat.le_of_ble_eq_true rfl⟩, ⟨(by show _ ≤ 601024; omega), (by show _ ≤ 7293034; omega)⟩⟩ d_La_law_470 (fun x1 G2 H locs hw hI => ?_)
  obtain ⟨pm1, cnt1, fd1, tt1, xt1, li1, la1, P1, hC1, hU1, hfr1, hev⟩ := hw
  have hM := hM.fr hfr1 (apU hap hmu)
  have hU := hU1
  have hC := hC1
  obtain ⟨P, hP⟩ : ∃ z, z = P1 := ⟨_, rfl⟩
  rw [← hP] at hU
  refine lv_istore (lv' := [(5, .int x1), (4, .int y4), (3, .ref ou), (2, .ref o), (1, .ref (A 0 0)), (0, .ref b)]) hx hb d_La_law_473 hl (by decide) rfl (fun ls hl => ?_)
  refine lv_aload_n hx hb d_La_law_475 rfl (lv_at hl 3 rfl) ?_
  refine lv_aload_n hx hb d_La_law_476 rfl (lv_at hl 5 rfl) ?_
  refine lv_iload hx hb d_La_law_477 (lv_at hl 1 rfl) ?_
  refine lv_iconst (v := 1) hx hb d_La_law_479 (by decide) ?_
  refine lv_iadd hx hb d_La_law_480 ?_
  refine va_sld hx hb hX hbl hbA hI.2 (nb_in (nb_add hy 1) (by omega) (by omega)) d_La_law_481 ?_
  refine lv_aload_n hx hb d_La_law_482 rfl (lv_at hl 5 rfl) ?_
  refine lv_iload hx hb d_La_law_483 (lv_at hl 1 rfl) ?_
  refine lv_iconst (v := 2) hx hb d_La_law_485 (by decide) ?_
  refine lv_iadd hx hb d_La_law_486 ?_
  refine va_sld hx hb hX hbl hbA hI.2 (nb_in (nb_add hy 2) (by omega) (by omega)) d_La_law_487 ?_
  refine lv_i2l hx hb d_La_law_488 rfl ?_
  refine lv_bipush (v := 32) hx hb d_La_law_489 (by decide) ?_
  refine lv_lshl hx hb d_La_law_491 rfl ?_
  refine lv_aload_n hx hb d_La_law_492 rfl (lv_at hl 5 rfl) ?_
  refine lv_iload hx hb d_La_law_493 (lv_at hl 1 rfl) ?_
  refine lv_iconst (v := 3) hx hb d_La_law_495 (by decide) ?_
  refine lv_iadd hx hb d_La_law_496 ?_
  refine va_sld hx hb hX hbl hbA hI.2 (nb_in (nb_add hy 3) (by omega) (by omega)) d_La_law_497 ?_
  refine lv_i2l hx hb d_La_law_498 rfl ?_
  refine lv_ldc2 (v := 4294967295) hx hb M.2.2.2.1 (M.2.2.2.2 _ o_La_59) d_La_law_499 ?_
  refine lv_land hx hb d_La_law_502 ?_
  refine lv_lor hx hb d_La_law_503 ?_
  by_cases hbm : (xs (y4 + (1 : Int32)).toNatClampNeg) < 1 ∨ ¬ (xs (y4 + (1 : Int32)).toNatClampNeg) ≤ 8
  · have hIs := hI
    refine gw_Vi (As := [.int (xs (y4 + (1 : Int32)).toNatClampNeg), .long (((((xs (y4 + (2 : Int32)).toNatClampNeg)).toInt64) <<< (((32 : Int32)).toInt64 &&& 63)) ||| ((((xs (y4 + (3 : Int32)).toNatClampNeg)).toInt64) &&& (4294967295 : Int64)))]) (rest := []) M hK hI (c_Mo_feedb l o q B t0 f0 l0 g0 fu fn fx fi fl hM (xs (y4 + (1 : Int32)).toNatClampNeg) (((((xs (y4 + (2 : Int32)).toNatClampNeg)).toInt64) <<< (((32 : Int32)).toInt64 &&& 63)) ||| ((((xs (y4 + (3 : Int32)).toNatClampNeg)).toInt64) &&& (4294967295 : Int64))) hbm) k_Mo_feed m_La_83 hM.O (ci := 6) rfl (fun x hx => ⟨_, hx⟩) rfl hl.1 rfl (Nat.le_of_ble_eq_true rfl) ⟨rfl, rfl, ⟨Nat.le_of_ble_eq_true rfl, Nat.le_of_ble_eq_true rfl⟩, ⟨(by show _ ≤ 601024; omega), (by show _ ≤ 7293034; omega)⟩⟩ d_La_law_504 (fun x3 G4 H locs hw hI => ?_)
    obtain ⟨hM1, hf1⟩ := hw
    have hC := hC.fr hf1 hap
    have hU := hf1 _ _ hU hmu
    have hM := hM1
    refine lv_istore (lv' := [(6, .int x3), (5, .int x1), (4, .int y4), (3, .ref ou), (2, .ref o), (1, .ref (A 0 0)), (0, .ref b)]) hx hb d_La_law_507 hl (by decide) rfl (fun ls hl => ?_)
    refine lv_aload_n hx hb d_La_law_509 rfl (lv_at hl 4 rfl) ?_
    refine gw_Vi (As := []) (rest := []) M hK hI (c_Mo_thrown l o q B 1 f0 l0 g0 fu fn fx fi fl hM) k_Mo_thrown m_La_84 hM.O (ci := 6) rfl (fun x hx => ⟨_, hx⟩) rfl hl.1 rfl (Nat.le_of_ble_eq_true rfl) ⟨rfl, rfl, ⟨Nat.le_of_ble_eq_true rfl, Nat.le_of_ble_eq_true rfl⟩, ⟨(by show _ ≤ 601024; omega), (by show _ ≤ 7293034; omega)⟩⟩ d_La_law_510 (fun x5 G9 H locs hw hI => ?_)
    obtain ⟨h_x5, hw9⟩ := hw
    rw [hw9] at hI
    subst h_x5
    refine lv_iload hx hb d_La_law_513 (lv_at hl 1 rfl) ?_
    refine lv_icmp_eq (tgt := 520) hx hb d_La_law_515 (by decide) (fun c_515 => ?_) (fun q9 => absurd ((hev.2.2.2.2.2.2.resolve_right (fun h => absurd hbm h.1)).2.1).symm q9)
    refine lv_iload hx hb d_La_law_520 (lv_at hl 1 rfl) ?_
    refine lv_if_ne (tgt := 537) hx hb d_La_law_522 (by decide) (fun c_522 => ?_) (fun q9 => absurd q9 (by rw [(hev.2.2.2.2.2.2.resolve_right (fun h => absurd hbm h.1)).2.1]; decide))
    refine lv_goto (tgt := 905) hx hb d_La_law_537 (by decide) ?_
    exact kk _ _ _ _ pm1 cnt1 fd1 tt1 xt1 li1 la1 B 1 f0 l0 g0 fu fn fx fi fl P (Nat.le_succ _) hC hM hU (hev.2.2.2.2.2.2.elim (fun h => h.2.2.trans hT) (fun h => absurd hbm h.1)) hI (lv_sub hl [2, 3, 4, 5, 6] rfl)
  · obtain ⟨nm, hnm1, hnm8, hnm⟩ := n1_of (fun h => hbm (Or.inl h)) (Classical.not_not.mp (fun h => hbm (Or.inr h)))
    have hIs := hI
    refine gw_Vi (As := [.int (xs (y4 + (1 : Int32)).toNatClampNeg), .long (((((xs (y4 + (2 : Int32)).toNatClampNeg)).toInt64) <<< (((32 : Int32)).toInt64 &&& 63)) ||| ((((xs (y4 + (3 : Int32)).toNatClampNeg)).toInt64) &&& (4294967295 : Int64)))]) (rest := []) M hK hI (c_Mo_feed l o q B t0 f0 l0 g0 fu fn fx fi fl hM (xs (y4 + (1 : Int32)).toNatClampNeg) (((((xs (y4 + (2 : Int32)).toNatClampNeg)).toInt64) <<< (((32 : Int32)).toInt64 &&& 63)) ||| ((((xs (y4 + (3 : Int32)).toNatClampNeg)).toInt64) &&& (4294967295 : Int64))) nm hnm hnm1 hnm8) k_Mo_feed m_La_83 hM.O (ci := 6) rfl (fun x hx => ⟨_, hx⟩) rfl hl.1 rfl (Nat.le_of_ble_eq_true rfl) ⟨rfl, rfl, ⟨Nat.le_of_ble_eq_true rfl, Nat.le_of_ble_eq_true rfl⟩, ⟨(by show _ ≤ 601024; omega), (by show _ ≤ 7293034; omega)⟩⟩ d_La_law_504 (fun x6 G7 H locs hw hI => ?_)
    obtain ⟨hw, hf1⟩ := hw
    rcases hw with ⟨h200, h_x6, hM1⟩ | ⟨h200, h_x6, hM1⟩
    · have hC := hC.fr hf1 hap
      have hU := hf1 _ _ hU hmu
      have hM := hM1
      refine lv_istore (lv' := [(6, .int x6), (5, .int x1), (4, .int y4), (3, .ref ou), (2, .ref o), (1, .ref (A 0 0)), (0, .ref b)]) hx hb d_La_law_507 hl (by decide) rfl (fun ls hl => ?_)
      refine lv_aload_n hx hb d_La_law_509 rfl (lv_at hl 4 rfl) ?_
      refine gw_Vi (As := []) (rest := []) M hK hI (c_Mo_thrown l o q B 0 f0 l0 g0 fu fn fx fi fl hM) k_Mo_thrown m_La_84 hM.O (ci := 6) rfl (fun x hx => ⟨_, hx⟩) rfl hl.1 rfl (Nat.le_of_ble_eq_true rfl) ⟨rfl, rfl, ⟨Nat.le_of_ble_eq_true rfl, Nat.le_of_ble_eq_true rfl⟩, ⟨(by show _ ≤ 601024; omega), (by show _ ≤ 7293034; omega)⟩⟩ d_La_law_510 (fun x8 G9 H locs hw hI => ?_)
      obtain ⟨h_x8, hw9⟩ := hw
      rw [hw9] at hI
      subst h_x8
      refine lv_iload hx hb d_La_law_513 (lv_at hl 1 rfl) ?_
      refine lv_icmp_eq (tgt := 520) hx hb d_La_law_515 (by decide) (fun c_515 => ?_) (fun q9 => absurd ((hev.2.2.2.2.2.2.resolve_left (fun h => hbm h.1)).2.1).symm q9)
      refine lv_iload hx hb d_La_law_520 (lv_at hl 1 rfl) ?_
      refine lv_if_ne (tgt := 537) hx hb d_La_law_522 (by decide) (fun q9 => absurd ((hev.2.2.2.2.2.2.resolve_left (fun h => hbm h.1)).2.1) q9) (fun c_522 => ?_)
      refine lv_aload_n hx hb d_La_law_525 rfl (lv_at hl 3 rfl) ?_
      refine lv_iconst (v := 0) hx hb d_La_law_526 (by decide) ?_
      refine gw_lald M hK hI hU (vp_in_nI (n := 0) (by decide) (by decide)) d_La_law_527 (fun x9 h_x9 => ?_)
      refine lv_iload hx hb d_La_law_528 (lv_at hl 0 rfl) ?_
      refine lv_i2l hx hb d_La_law_530 rfl ?_
      refine W.lcmp hx hb d_La_law_531 ?_
      refine lv_if_eq (tgt := 537) hx hb d_La_law_532 (by decide) (fun c_532 => ?_) (fun q9 => absurd ((lg_cmp_eq _ _).mpr ((((t_feed (show fd = f0 from hT) hnm hnm8 (hev.2.2.2.2.2.2.resolve_left (fun h => hbm h.1)).2.2).1 h200).2 _ (hP ▸ h_x9)).trans (congrArg Int32.toInt64 h_x6.symm))) q9)
      refine lv_goto (tgt := 905) hx hb d_La_law_537 (by decide) ?_
      exact kk _ _ _ _ pm1 cnt1 fd1 tt1 xt1 li1 la1 B 0 f0 l0 g0 fu fn fx fi fl P (Nat.le_succ _) hC hM hU (((t_feed hT hnm hnm8 (hev.2.2.2.2.2.2.resolve_left (fun h => hbm h.1)).2.2).1 h200).1) hI (lv_sub hl [2, 3, 4, 5, 6] rfl)
    · have hC := hC.fr hf1 hap
      have hU := hf1 _ _ hU hmu
      have hM := hM1
      refine lv_istore (lv' := [(6, .int x6), (5, .int x1), (4, .int y4), (3, .ref ou), (2, .ref o), (1, .ref (A 0 0)), (0, .ref b)]) hx hb d_La_law_507 hl (by decide) rfl (fun ls hl => ?_)
      refine lv_aload_n hx hb d_La_law_509 rfl (lv_at hl 4 rfl) ?_
      refine gw_Vi (As := []) (rest := []) M hK hI (c_Mo_thrown l o q B 0 (f0 + nm) l0 g0 fu fn fx fi fl hM) k_Mo_thrown m_La_84 hM.O (ci := 6) rfl (fun x hx => ⟨_, hx⟩) rfl hl.1 rfl (Nat.le_of_ble_eq_true rfl) ⟨rfl, rfl, ⟨Nat.le_of_ble_eq_true rfl, Nat.le_of_ble_eq_true rfl⟩, ⟨(by show _ ≤ 601024; omega), (by show _ ≤ 7293034; omega)⟩⟩ d_La_law_510 (fun x10 G9 H locs hw hI => ?_)
      obtain ⟨h_x10, hw9⟩ := hw
      rw [hw9] at hI
      subst h_x10
      refine lv_iload hx hb d_La_law_513 (lv_at hl 1 rfl) ?_
      refine lv_icmp_eq (tgt := 520) hx hb d_La_law_515 (by decide) (fun c_515 => ?_) (fun q9 => absurd ((hev.2.2.2.2.2.2.resolve_left (fun h => hbm h.1)).2.1).symm q9)
      refine lv_iload hx hb d_La_law_520 (lv_at hl 1 rfl) ?_
      refine lv_if_ne (tgt := 537) hx hb d_La_law_522 (by decide) (fun q9 => absurd ((hev.2.2.2.2.2.2.resolve_left (fun h => hbm h.1)).2.1) q9) (fun c_522 => ?_)
      refine lv_aload_n hx hb d_La_law_525 rfl (lv_at hl 3 rfl) ?_
      refine lv_iconst (v := 0) hx hb d_La_law_526 (by decide) ?_
      refine gw_lald M hK hI hU (vp_in_nI (n := 0) (by decide) (by decide)) d_La_law_527 (fun x11 h_x11 => ?_)
      refine lv_iload hx hb d_La_law_528 (lv_at hl 0 rfl) ?_
      refine lv_i2l hx hb d_La_law_530 rfl ?_
      refine W.lcmp hx hb d_La_law_531 ?_
      refine lv_if_eq (tgt := 537) hx hb d_La_law_532 (by decide) (fun c_532 => ?_) (fun q9 => absurd ((lg_cmp_eq _ _).mpr ((((t_feed (show fd = f0 from hT) hnm hnm8 (hev.2.2.2.2.2.2.resolve_left (fun h => hbm h.1)).2.2).2 h200).2 _ (hP ▸ h_x11)).trans (by rw [h_x6, show fd = f0 from hT]))) q9)
      refine lv_goto (tgt := 905) hx hb d_La_law_537 (by decide) ?_
      exact kk _ _ _ _ pm1 cnt1 fd1 tt1 xt1 li1 la1 B 0 (f0 + nm) l0 g0 fu fn fx fi fl P (Nat.le_succ _) hC hM hU (((t_feed hT hnm hnm8 (hev.2.2.2.2.2.2.resolve_left (fun h => hbm h.1)).2.2).2 h200).1) hI (lv_sub hl [2, 3, 4, 5, 6] rfl)

set_option maxHeartbeats 4000000 in
set_option maxRecDepth 100000 in
theorem law_5 {p : Program} {l : Launch} {e : Env} {s : State} {m : MethodId} {below : List Frame} {meth : Method} {c : Code} {b L : Nat} {xs : Nat → Int32} (C0 : lw_At p s m meth c b L xs) (htr : l.stackTraces = false) {D : gw_D} (hK : gw_K D s.heap s) (hL : L ≤ 4608) {G : gw_G} {H : Heap} {locs : List Loc} {A : Nat → Nat → Nat} {o ou : Nat} {q : Nat → Nat} {P : Int64 → Prop} {pm : Nat → Nat} {cnt fd : Nat} {tt xt li : Nat → Int32} {la : Nat → Int64} {B : Nat} {t0 : Int32} {f0 l0 g0 : Nat} {fu fn fx fi : Nat → Int32} {fl : Nat → Int64} (hC : cls D G A pm cnt fd tt xt li la) (hM : mdl D G o q B t0 f0 l0 g0 fu fn fx fi fl) (hU : G ou = some (kL D 1 P)) (hap : ∀ k i, inA k i → ¬ mown o q (A k i)) (hmu : ¬ mown o q ou) (hT : tie pm cnt fd tt xt li la t0 f0 l0 fu fn fx fi fl) (hB6 : B ≤ 600) {y4 : Int32} {j9 c0 s0 : Nat} (hy : y4 = nI j9) (h9 : j9 + 9 ≤ L) (hc0 : c0 ≤ 1000) (hs0 : s0 ≤ 80000) (kk : lwK p l e s m below meth c b D A o q ou y4 c0 s0 B) (hI : gw_I D s.heap G s.heap H locs) (ls : Array Slot) (hl : lv_has ls 8 [(4, .int y4), (3, .ref ou), (2, .ref o), (1, .ref (A 0 0)), (0, .ref b)]) : W p l e room_1 s m #[Value.ref b] below meth c H locs c0 s0 (lw_Z below #[Value.ref b] s) (F0 m 540 ls []) := by
  obtain ⟨hx, hb, hr, hml, hown, hts, hX, hbl, hlocks, hgv⟩ := id C0
  have M : CallFix p m c b_La_law 8 s #[Value.ref b] tb R_La := ⟨hx, hb, hml, hown, fun w h => hts w (tb_in h)⟩
  have hbA : ¬ gw_A s.heap b := Nat.not_le.mpr hbl
  refine lv_aload_n hx hb d_La_law_540 rfl (lv_at hl 3 rfl) ?_
  have hIs := hI
  refine gw_Vi (As := []) (rest := []) M hK hI (c_Gp_wipe l A pm cnt fd tt xt li la hC) k_Gp_wipe m_La_88 hC.O (ci := 5) rfl (fun x hx => ⟨_, hx⟩) rfl hl.1 rfl (Nat.le_of_ble_eq_true rfl) ⟨rfl, rfl, ⟨Nat.le_of_ble_eq_true rfl, Nat.le_of_ble_eq_true rfl⟩, ⟨(by show _ ≤ 601024; omega), (by show _ ≤ 7293034; omega)⟩⟩ d_La_law_541 (fun x1 G2 H locs hw hI => ?_)
  obtain ⟨h_x1, hw⟩ := hw
  have hfr1 : gw_fr (own A) G G2 := by rw [hw]; exact gw_fr.up (Or.inr (Or.inr (Or.inl rfl)))
  have hM := hM.fr hfr1 (apO hap)
  have hU := hfr1 _ _ hU (hC.nown hIs hU gt_L (Or.inl rfl))
  have hC : cls D G2 A pm cnt 0 tt xt li la := by rw [hw]; exact hC.fedup hIs (Nat.zero_le _)
  refine lv_pop hx hb d_La_law_544 rfl ?_
  refine lv_aload_n hx hb d_La_law_545 rfl (lv_at hl 2 rfl) ?_
  have hIs := hI
  refine gw_Vi (As := []) (rest := []) M hK hI (c_Mo_wipe l o q B t0 f0 l0 g0 fu fn fx fi fl hM ) k_Mo_wipe m_La_91 hM.O (ci := 6) rfl (fun x hx => ⟨_, hx⟩) rfl hl.1 rfl (Nat.le_of_ble_eq_true rfl) ⟨rfl, rfl, ⟨Nat.le_of_ble_eq_true rfl, Nat.le_of_ble_eq_true rfl⟩, ⟨(by show _ ≤ 601024; omega), (by show _ ≤ 7293034; omega)⟩⟩ d_La_law_546 (fun x3 G4 H locs hw hI => ?_)
  obtain ⟨h_x3, hM1, hf1⟩ := hw
  have hC := hC.fr hf1 hap
  have hU := hf1 _ _ hU hmu
  have hM := hM1
  refine lv_pop hx hb d_La_law_549 rfl ?_
  refine lv_goto (tgt := 905) hx hb d_La_law_550 (by decide) ?_
  refine W.widen (k := c0 + 1) (n := s0 + 6) (Nat.le_add_right _ _) (Nat.le_add_right _ _) ?_
  exact kk _ _ _ _ pm cnt 0 tt xt li la B 0 0 l0 g0 fu fn fx fi fl P (Nat.le_succ _) hC hM hU rfl hI (lv_sub hl [0, 1, 2, 3, 4] rfl)

set_option maxHeartbeats 4000000 in
set_option maxRecDepth 100000 in
theorem law_6 {p : Program} {l : Launch} {e : Env} {s : State} {m : MethodId} {below : List Frame} {meth : Method} {c : Code} {b L : Nat} {xs : Nat → Int32} (C0 : lw_At p s m meth c b L xs) (htr : l.stackTraces = false) {D : gw_D} (hK : gw_K D s.heap s) (hL : L ≤ 4608) {G : gw_G} {H : Heap} {locs : List Loc} {A : Nat → Nat → Nat} {o ou : Nat} {q : Nat → Nat} {P : Int64 → Prop} {pm : Nat → Nat} {cnt fd : Nat} {tt xt li : Nat → Int32} {la : Nat → Int64} {B : Nat} {t0 : Int32} {f0 l0 g0 : Nat} {fu fn fx fi : Nat → Int32} {fl : Nat → Int64} (hC : cls D G A pm cnt fd tt xt li la) (hM : mdl D G o q B t0 f0 l0 g0 fu fn fx fi fl) (hU : G ou = some (kL D 1 P)) (hap : ∀ k i, inA k i → ¬ mown o q (A k i)) (hmu : ¬ mown o q ou) (hT : tie pm cnt fd tt xt li la t0 f0 l0 fu fn fx fi fl) (hB6 : B ≤ 600) {y4 : Int32} {j9 c0 s0 : Nat} (hy : y4 = nI j9) (h9 : j9 + 9 ≤ L) (hc0 : c0 ≤ 1000) (hs0 : s0 ≤ 80000) (kk : lwK p l e s m below meth c b D A o q ou y4 c0 s0 B) (hI : gw_I D s.heap G s.heap H locs) (ls : Array Slot) (hl : lv_has ls 8 [(4, .int y4), (3, .ref ou), (2, .ref o), (1, .ref (A 0 0)), (0, .ref b)]) : W p l e room_1 s m #[Value.ref b] below meth c H locs c0 s0 (lw_Z below #[Value.ref b] s) (F0 m 553 ls []) := by
  obtain ⟨hx, hb, hr, hml, hown, hts, hX, hbl, hlocks, hgv⟩ := id C0
  have M : CallFix p m c b_La_law 8 s #[Value.ref b] tb R_La := ⟨hx, hb, hml, hown, fun w h => hts w (tb_in h)⟩
  have hbA : ¬ gw_A s.heap b := Nat.not_le.mpr hbl
  refine lv_aload_n hx hb d_La_law_553 rfl (lv_at hl 3 rfl) ?_
  refine lv_aload_n hx hb d_La_law_554 rfl (lv_at hl 4 rfl) ?_
  refine lv_iload hx hb d_La_law_555 (lv_at hl 0 rfl) ?_
  refine lv_iconst (v := 1) hx hb d_La_law_557 (by decide) ?_
  refine lv_iadd hx hb d_La_law_558 ?_
  refine va_sld hx hb hX hbl hbA hI.2 (nb_in (nb_add hy 1) (by omega) (by omega)) d_La_law_559 ?_
  refine lv_aload_n hx hb d_La_law_560 rfl (lv_at hl 4 rfl) ?_
  refine lv_iload hx hb d_La_law_561 (lv_at hl 0 rfl) ?_
  refine lv_iconst (v := 2) hx hb d_La_law_563 (by decide) ?_
  refine lv_iadd hx hb d_La_law_564 ?_
  refine va_sld hx hb hX hbl hbA hI.2 (nb_in (nb_add hy 2) (by omega) (by omega)) d_La_law_565 ?_
  refine lv_aload_n hx hb d_La_law_566 rfl (lv_at hl 1 rfl) ?_
  have hIs := hI
  refine gw_Wi (As := [.ref (A 0 0), .int (xs (y4 + (1 : Int32)).toNatClampNeg), .int (xs (y4 + (2 : Int32)).toNatClampNeg), .ref ou]) (rest := []) M hK hI (c_La_seal l htr A pm cnt fd tt xt li la hC (xs (y4 + (1 : Int32)).toNatClampNeg) (xs (y4 + (2 : Int32)).toNatClampNeg) ou P hU) k_La_seal m_La_92 rfl hl.1 rfl (Nat.le_of_ble_eq_true rfl) ⟨rfl, rfl, ⟨Nat.le_of_ble_eq_true rfl, Nat.le_of_ble_eq_true rfl⟩, ⟨(by show _ ≤ 601024; omega), (by show _ ≤ 7293034; omega)⟩⟩ d_La_law_567 (fun x1 G2 H locs hw hI => ?_)
  obtain ⟨pm1, cnt1, fd1, tt1, xt1, li1, la1, P1, hC1, hU1, hfr1, hev⟩ := hw
  have hM := hM.fr hfr1 (apU hap hmu)
  have hU := hU1
  have hC := hC1
  obtain ⟨P, hP⟩ : ∃ z, z = P1 := ⟨_, rfl⟩
  rw [← hP] at hU
  refine lv_istore (lv' := [(5, .int x1), (4, .int y4), (3, .ref ou), (2, .ref o), (1, .ref (A 0 0)), (0, .ref b)]) hx hb d_La_law_570 hl (by decide) rfl (fun ls hl => ?_)
  refine lv_aload_n hx hb d_La_law_572 rfl (lv_at hl 3 rfl) ?_
  refine lv_aload_n hx hb d_La_law_573 rfl (lv_at hl 5 rfl) ?_
  refine lv_iload hx hb d_La_law_574 (lv_at hl 1 rfl) ?_
  refine lv_iconst (v := 1) hx hb d_La_law_576 (by decide) ?_
  refine lv_iadd hx hb d_La_law_577 ?_
  refine va_sld hx hb hX hbl hbA hI.2 (nb_in (nb_add hy 1) (by omega) (by omega)) d_La_law_578 ?_
  refine lv_aload_n hx hb d_La_law_579 rfl (lv_at hl 5 rfl) ?_
  refine lv_iload hx hb d_La_law_580 (lv_at hl 1 rfl) ?_
  refine lv_iconst (v := 2) hx hb d_La_law_582 (by decide) ?_
  refine lv_iadd hx hb d_La_law_583 ?_
  refine va_sld hx hb hX hbl hbA hI.2 (nb_in (nb_add hy 2) (by omega) (by omega)) d_La_law_584 ?_
  obtain ⟨s1, hfi⟩ := isFi.ex fu fn (xs (y4 + (1 : Int32)).toNatClampNeg)
  by_cases hs1 : s1 < 16
  · by_cases hbm : okB (xs (y4 + (2 : Int32)).toNatClampNeg)
    · have hIs := hI
      refine gw_Vi (As := [.int (xs (y4 + (1 : Int32)).toNatClampNeg), .int (xs (y4 + (2 : Int32)).toNatClampNeg)]) (rest := []) M hK hI (c_Mo_sealf l o q B t0 f0 l0 g0 fu fn fx fi fl hM (xs (y4 + (1 : Int32)).toNatClampNeg) s1 hfi hs1 (xs (y4 + (2 : Int32)).toNatClampNeg) hbm) k_Mo_seal m_La_94 hM.O (ci := 6) rfl (fun x hx => ⟨_, hx⟩) rfl hl.1 rfl (Nat.le_of_ble_eq_true rfl) ⟨rfl, rfl, ⟨Nat.le_of_ble_eq_true rfl, Nat.le_of_ble_eq_true rfl⟩, ⟨(by show _ ≤ 601024; omega), (by show _ ≤ 7293034; omega)⟩⟩ d_La_law_585 (fun x3 G4 H locs hw hI => ?_)
      obtain ⟨hw, hf1⟩ := hw
      rcases hw with ⟨hcm, h_x3, hM1⟩ | ⟨hcm, h_x3, hM1⟩
      · have hC := hC.fr hf1 hap
        have hU := hf1 _ _ hU hmu
        have hM := hM1
        refine lv_istore (lv' := [(6, .int x3), (5, .int x1), (4, .int y4), (3, .ref ou), (2, .ref o), (1, .ref (A 0 0)), (0, .ref b)]) hx hb d_La_law_588 hl (by decide) rfl (fun ls hl => ?_)
        refine lv_goto (tgt := 905) hx hb d_La_law_590 (by decide) ?_
        exact kk _ _ _ _ pm1 cnt1 fd1 tt1 xt1 li1 la1 B 0 f0 l0 g0 fu fn fx fi fl P (Nat.le_succ _) hC hM hU (by obtain ⟨kp, hkp, e1, e2, e3, -⟩ := hev; exact e3.trans hT) hI (lv_sub hl [2, 3, 4, 5, 6] rfl)
      · have hC := hC.fr hf1 hap
        have hU := hf1 _ _ hU hmu
        have hM := hM1
        refine lv_istore (lv' := [(6, .int x3), (5, .int x1), (4, .int y4), (3, .ref ou), (2, .ref o), (1, .ref (A 0 0)), (0, .ref b)]) hx hb d_La_law_588 hl (by decide) rfl (fun ls hl => ?_)
        refine lv_goto (tgt := 905) hx hb d_La_law_590 (by decide) ?_
        exact kk _ _ _ _ pm1 cnt1 fd1 tt1 xt1 li1 la1 B 0 f0 (f0 + 34 + (4 - (f0 + 2) % 4) % 4) g0 fu fn fx (upd fi s1 (fi s1 - nI f0)) (vp_updL fl s1 (fl s1 + 1)) P (Nat.le_succ _) hC hM hU (by obtain ⟨kp, hkp, e1, e2, e3, -⟩ := hev; exact e3.trans hT) hI (lv_sub hl [2, 3, 4, 5, 6] rfl)
    · have hIs := hI
      refine gw_Vi (As := [.int (xs (y4 + (1 : Int32)).toNatClampNeg), .int (xs (y4 + (2 : Int32)).toNatClampNeg)]) (rest := []) M hK hI (c_Mo_sealb l o q B t0 f0 l0 g0 fu fn fx fi fl hM (xs (y4 + (1 : Int32)).toNatClampNeg) s1 hfi hs1 (xs (y4 + (2 : Int32)).toNatClampNeg) hbm) k_Mo_seal m_La_94 hM.O (ci := 6) rfl (fun x hx => ⟨_, hx⟩) rfl hl.1 rfl (Nat.le_of_ble_eq_true rfl) ⟨rfl, rfl, ⟨Nat.le_of_ble_eq_true rfl, Nat.le_of_ble_eq_true rfl⟩, ⟨(by show _ ≤ 601024; omega), (by show _ ≤ 7293034; omega)⟩⟩ d_La_law_585 (fun x5 G6 H locs hw hI => ?_)
      obtain ⟨hM1, hf1⟩ := hw
      have hC := hC.fr hf1 hap
      have hU := hf1 _ _ hU hmu
      have hM := hM1
      refine lv_istore (lv' := [(6, .int x5), (5, .int x1), (4, .int y4), (3, .ref ou), (2, .ref o), (1, .ref (A 0 0)), (0, .ref b)]) hx hb d_La_law_588 hl (by decide) rfl (fun ls hl => ?_)
      refine lv_goto (tgt := 905) hx hb d_La_law_590 (by decide) ?_
      exact kk _ _ _ _ pm1 cnt1 fd1 tt1 xt1 li1 la1 B 2 f0 l0 g0 fu fn fx fi fl P (Nat.le_succ _) hC hM hU (by obtain ⟨kp, hkp, e1, e2, e3, -⟩ := hev; exact e3.trans hT) hI (lv_sub hl [2, 3, 4, 5, 6] rfl)
  · have hfi := hfi.none hs1
    have hIs := hI
    refine gw_Vi (As := [.int (xs (y4 + (1 : Int32)).toNatClampNeg), .int (xs (y4 + (2 : Int32)).toNatClampNeg)]) (rest := []) M hK hI (c_Mo_sealn l o q B t0 f0 l0 g0 fu fn fx fi fl hM (xs (y4 + (1 : Int32)).toNatClampNeg) hfi (xs (y4 + (2 : Int32)).toNatClampNeg)) k_Mo_seal m_La_94 hM.O (ci := 6) rfl (fun x hx => ⟨_, hx⟩) rfl hl.1 rfl (Nat.le_of_ble_eq_true rfl) ⟨rfl, rfl, ⟨Nat.le_of_ble_eq_true rfl, Nat.le_of_ble_eq_true rfl⟩, ⟨(by show _ ≤ 601024; omega), (by show _ ≤ 7293034; omega)⟩⟩ d_La_law_585 (fun x7 G8 H locs hw hI => ?_)
    obtain ⟨hM1, hf1⟩ := hw
    have hC := hC.fr hf1 hap
    have hU := hf1 _ _ hU hmu
    have hM := hM1
    refine lv_istore (lv' := [(6, .int x7), (5, .int x1), (4, .int y4), (3, .ref ou), (2, .ref o), (1, .ref (A 0 0)), (0, .ref b)]) hx hb d_La_law_588 hl (by decide) rfl (fun ls hl => ?_)
    refine lv_goto (tgt := 905) hx hb d_La_law_590 (by decide) ?_
    exact kk _ _ _ _ pm1 cnt1 fd1 tt1 xt1 li1 la1 B 1 f0 l0 g0 fu fn fx fi fl P (Nat.le_succ _) hC hM hU (by obtain ⟨kp, hkp, e1, e2, e3, -⟩ := hev; exact e3.trans hT) hI (lv_sub hl [2, 3, 4, 5, 6] rfl)

set_option maxHeartbeats 4000000 in
set_option maxRecDepth 100000 in
theorem law_7 {p : Program} {l : Launch} {e : Env} {s : State} {m : MethodId} {below : List Frame} {meth : Method} {c : Code} {b L : Nat} {xs : Nat → Int32} (C0 : lw_At p s m meth c b L xs) (htr : l.stackTraces = false) {D : gw_D} (hK : gw_K D s.heap s) (hL : L ≤ 4608) {G : gw_G} {H : Heap} {locs : List Loc} {A : Nat → Nat → Nat} {o ou : Nat} {q : Nat → Nat} {P : Int64 → Prop} {pm : Nat → Nat} {cnt fd : Nat} {tt xt li : Nat → Int32} {la : Nat → Int64} {B : Nat} {t0 : Int32} {f0 l0 g0 : Nat} {fu fn fx fi : Nat → Int32} {fl : Nat → Int64} (hC : cls D G A pm cnt fd tt xt li la) (hM : mdl D G o q B t0 f0 l0 g0 fu fn fx fi fl) (hU : G ou = some (kL D 1 P)) (hap : ∀ k i, inA k i → ¬ mown o q (A k i)) (hmu : ¬ mown o q ou) (hT : tie pm cnt fd tt xt li la t0 f0 l0 fu fn fx fi fl) (hB6 : B ≤ 600) {y4 : Int32} {j9 c0 s0 : Nat} (hy : y4 = nI j9) (h9 : j9 + 9 ≤ L) (hc0 : c0 ≤ 1000) (hs0 : s0 ≤ 80000) (kk : lwK p l e s m below meth c b D A o q ou y4 c0 s0 B) (hI : gw_I D s.heap G s.heap H locs) (ls : Array Slot) (hl : lv_has ls 8 [(4, .int y4), (3, .ref ou), (2, .ref o), (1, .ref (A 0 0)), (0, .ref b)]) : W p l e room_1 s m #[Value.ref b] below meth c H locs c0 s0 (lw_Z below #[Value.ref b] s) (F0 m 593 ls []) := by
  obtain ⟨hx, hb, hr, hml, hown, hts, hX, hbl, hlocks, hgv⟩ := id C0
  have M : CallFix p m c b_La_law 8 s #[Value.ref b] tb R_La := ⟨hx, hb, hml, hown, fun w h => hts w (tb_in h)⟩
  have hbA : ¬ gw_A s.heap b := Nat.not_le.mpr hbl
  refine lv_aload_n hx hb d_La_law_593 rfl (lv_at hl 3 rfl) ?_
  have hIs := hI
  refine gw_Vi (As := []) (rest := []) M hK hI (c_Gp_size l A pm cnt fd tt xt li la hC ) k_Gp_size m_La_95 hC.O (ci := 5) rfl (fun x hx => ⟨_, hx⟩) rfl hl.1 rfl (Nat.le_of_ble_eq_true rfl) ⟨rfl, rfl, ⟨Nat.le_of_ble_eq_true rfl, Nat.le_of_ble_eq_true rfl⟩, ⟨(by show _ ≤ 601024; omega), (by show _ ≤ 7293034; omega)⟩⟩ d_La_law_594 (fun x1 G2 H locs hw hI => ?_)
  rw [hw] at hI
  refine lv_pop hx hb d_La_law_597 rfl ?_
  refine lv_aload_n hx hb d_La_law_598 rfl (lv_at hl 2 rfl) ?_
  have hIs := hI
  refine gw_Vi (As := []) (rest := []) M hK hI (c_Mo_size l o q B t0 f0 l0 g0 fu fn fx fi fl hM ) k_Mo_size m_La_98 hM.O (ci := 6) rfl (fun x hx => ⟨_, hx⟩) rfl hl.1 rfl (Nat.le_of_ble_eq_true rfl) ⟨rfl, rfl, ⟨Nat.le_of_ble_eq_true rfl, Nat.le_of_ble_eq_true rfl⟩, ⟨(by show _ ≤ 601024; omega), (by show _ ≤ 7293034; omega)⟩⟩ d_La_law_599 (fun x3 G4 H locs hw hI => ?_)
  obtain ⟨h_x3, hM1, hf1⟩ := hw
  have hC := hC.fr hf1 hap
  have hU := hf1 _ _ hU hmu
  have hM := hM1
  refine lv_pop hx hb d_La_law_602 rfl ?_
  refine lv_goto (tgt := 905) hx hb d_La_law_603 (by decide) ?_
  refine W.widen (k := c0 + 1) (n := s0 + 6) (Nat.le_add_right _ _) (Nat.le_add_right _ _) ?_
  exact kk _ _ _ _ pm cnt fd tt xt li la B 0 f0 l0 g0 fu fn fx fi fl P (Nat.le_succ _) hC hM hU hT hI (lv_sub hl [0, 1, 2, 3, 4] rfl)

set_option maxHeartbeats 4000000 in
set_option maxRecDepth 100000 in
theorem law_8 {p : Program} {l : Launch} {e : Env} {s : State} {m : MethodId} {below : List Frame} {meth : Method} {c : Code} {b L : Nat} {xs : Nat → Int32} (C0 : lw_At p s m meth c b L xs) (htr : l.stackTraces = false) {D : gw_D} (hK : gw_K D s.heap s) (hL : L ≤ 4608) {G : gw_G} {H : Heap} {locs : List Loc} {A : Nat → Nat → Nat} {o ou : Nat} {q : Nat → Nat} {P : Int64 → Prop} {pm : Nat → Nat} {cnt fd : Nat} {tt xt li : Nat → Int32} {la : Nat → Int64} {B : Nat} {t0 : Int32} {f0 l0 g0 : Nat} {fu fn fx fi : Nat → Int32} {fl : Nat → Int64} (hC : cls D G A pm cnt fd tt xt li la) (hM : mdl D G o q B t0 f0 l0 g0 fu fn fx fi fl) (hU : G ou = some (kL D 1 P)) (hap : ∀ k i, inA k i → ¬ mown o q (A k i)) (hmu : ¬ mown o q ou) (hT : tie pm cnt fd tt xt li la t0 f0 l0 fu fn fx fi fl) (hB6 : B ≤ 600) {y4 : Int32} {j9 c0 s0 : Nat} (hy : y4 = nI j9) (h9 : j9 + 9 ≤ L) (hc0 : c0 ≤ 1000) (hs0 : s0 ≤ 80000) (kk : lwK p l e s m below meth c b D A o q ou y4 c0 s0 B) (hI : gw_I D s.heap G s.heap H locs) (ls : Array Slot) (hl : lv_has ls 8 [(4, .int y4), (3, .ref ou), (2, .ref o), (1, .ref (A 0 0)), (0, .ref b)]) : W p l e room_1 s m #[Value.ref b] below meth c H locs c0 s0 (lw_Z below #[Value.ref b] s) (F0 m 606 ls []) := by
  obtain ⟨hx, hb, hr, hml, hown, hts, hX, hbl, hlocks, hgv⟩ := id C0
  have M : CallFix p m c b_La_law 8 s #[Value.ref b] tb R_La := ⟨hx, hb, hml, hown, fun w h => hts w (tb_in h)⟩
  have hbA : ¬ gw_A s.heap b := Nat.not_le.mpr hbl
  refine lv_aload_n hx hb d_La_law_606 rfl (lv_at hl 3 rfl) ?_
  refine lv_aload_n hx hb d_La_law_607 rfl (lv_at hl 4 rfl) ?_
  refine lv_iload hx hb d_La_law_608 (lv_at hl 0 rfl) ?_
  refine lv_iconst (v := 1) hx hb d_La_law_610 (by decide) ?_
  refine lv_iadd hx hb d_La_law_611 ?_
  refine va_sld hx hb hX hbl hbA hI.2 (nb_in (nb_add hy 1) (by omega) (by omega)) d_La_law_612 ?_
  have hIs := hI
  refine gw_Vl (As := [.int (xs (y4 + (1 : Int32)).toNatClampNeg)]) (rest := []) M hK hI (c_Gp_packet l A pm cnt fd tt xt li la hC (xs (y4 + (1 : Int32)).toNatClampNeg)) k_Gp_packet m_La_99 hC.O (ci := 5) rfl (fun x hx => ⟨_, hx⟩) rfl hl.1 rfl (Nat.le_of_ble_eq_true rfl) ⟨rfl, rfl, ⟨Nat.le_of_ble_eq_true rfl, Nat.le_of_ble_eq_true rfl⟩, ⟨(by show _ ≤ 601024; omega), (by show _ ≤ 7293034; omega)⟩⟩ d_La_law_613 (fun x1 G2 H locs hw hI => ?_)
  rw [hw] at hI
  refine lv_pop2_2 hx hb d_La_law_616 rfl ?_
  refine lv_aload_n hx hb d_La_law_617 rfl (lv_at hl 2 rfl) ?_
  refine lv_aload_n hx hb d_La_law_618 rfl (lv_at hl 4 rfl) ?_
  refine lv_iload hx hb d_La_law_619 (lv_at hl 0 rfl) ?_
  refine lv_iconst (v := 1) hx hb d_La_law_621 (by decide) ?_
  refine lv_iadd hx hb d_La_law_622 ?_
  refine va_sld hx hb hX hbl hbA hI.2 (nb_in (nb_add hy 1) (by omega) (by omega)) d_La_law_623 ?_
  have hIs := hI
  refine gw_Vl (As := [.int (xs (y4 + (1 : Int32)).toNatClampNeg)]) (rest := []) M hK hI (c_Mo_packet l o q B t0 f0 l0 g0 fu fn fx fi fl hM (xs (y4 + (1 : Int32)).toNatClampNeg)) k_Mo_packet m_La_103 hM.O (ci := 6) rfl (fun x hx => ⟨_, hx⟩) rfl hl.1 rfl (Nat.le_of_ble_eq_true rfl) ⟨rfl, rfl, ⟨Nat.le_of_ble_eq_true rfl, Nat.le_of_ble_eq_true rfl⟩, ⟨(by show _ ≤ 601024; omega), (by show _ ≤ 7293034; omega)⟩⟩ d_La_law_624 (fun x3 G4 H locs hw hI => ?_)
  obtain ⟨hM1, hf1⟩ := hw
  have hC := hC.fr hf1 hap
  have hU := hf1 _ _ hU hmu
  have hM := hM1
  refine lv_pop2_2 hx hb d_La_law_627 rfl ?_
  refine lv_goto (tgt := 905) hx hb d_La_law_628 (by decide) ?_
  refine W.widen (k := c0 + 1) (n := s0 + 6) (Nat.le_add_right _ _) (Nat.le_add_right _ _) ?_
  exact kk _ _ _ _ pm cnt fd tt xt li la B 0 f0 l0 g0 fu fn fx fi fl P (Nat.le_succ _) hC hM hU hT hI (lv_sub hl [0, 1, 2, 3, 4] rfl)

set_option maxHeartbeats 4000000 in
set_option maxRecDepth 100000 in
theorem law_9 {p : Program} {l : Launch} {e : Env} {s : State} {m : MethodId} {below : List Frame} {meth : Method} {c : Code} {b L : Nat} {xs : Nat → Int32} (C0 : lw_At p s m meth c b L xs) (htr : l.stackTraces = false) {D : gw_D} (hK : gw_K D s.heap s) (hL : L ≤ 4608) {G : gw_G} {H : Heap} {locs : List Loc} {A : Nat → Nat → Nat} {o ou : Nat} {q : Nat → Nat} {P : Int64 → Prop} {pm : Nat → Nat} {cnt fd : Nat} {tt xt li : Nat → Int32} {la : Nat → Int64} {B : Nat} {t0 : Int32} {f0 l0 g0 : Nat} {fu fn fx fi : Nat → Int32} {fl : Nat → Int64} (hC : cls D G A pm cnt fd tt xt li la) (hM : mdl D G o q B t0 f0 l0 g0 fu fn fx fi fl) (hU : G ou = some (kL D 1 P)) (hap : ∀ k i, inA k i → ¬ mown o q (A k i)) (hmu : ¬ mown o q ou) (hT : tie pm cnt fd tt xt li la t0 f0 l0 fu fn fx fi fl) (hB6 : B ≤ 600) {y4 : Int32} {j9 c0 s0 : Nat} (hy : y4 = nI j9) (h9 : j9 + 9 ≤ L) (hc0 : c0 ≤ 1000) (hs0 : s0 ≤ 80000) (kk : lwK p l e s m below meth c b D A o q ou y4 c0 s0 B) (hI : gw_I D s.heap G s.heap H locs) (ls : Array Slot) (hl : lv_has ls 8 [(4, .int y4), (3, .ref ou), (2, .ref o), (1, .ref (A 0 0)), (0, .ref b)]) : W p l e room_1 s m #[Value.ref b] below meth c H locs c0 s0 (lw_Z below #[Value.ref b] s) (F0 m 631 ls []) := by
  obtain ⟨hx, hb, hr, hml, hown, hts, hX, hbl, hlocks, hgv⟩ := id C0
  have M : CallFix p m c b_La_law 8 s #[Value.ref b] tb R_La := ⟨hx, hb, hml, hown, fun w h => hts w (tb_in h)⟩
  have hbA : ¬ gw_A s.heap b := Nat.not_le.mpr hbl
  refine lv_aload_n hx hb d_La_law_631 rfl (lv_at hl 3 rfl) ?_
  refine lv_aload_n hx hb d_La_law_632 rfl (lv_at hl 4 rfl) ?_
  refine lv_iload hx hb d_La_law_633 (lv_at hl 0 rfl) ?_
  refine lv_iconst (v := 1) hx hb d_La_law_635 (by decide) ?_
  refine lv_iadd hx hb d_La_law_636 ?_
  refine va_sld hx hb hX hbl hbA hI.2 (nb_in (nb_add hy 1) (by omega) (by omega)) d_La_law_637 ?_
  refine lv_aload_n hx hb d_La_law_638 rfl (lv_at hl 4 rfl) ?_
  refine lv_iload hx hb d_La_law_639 (lv_at hl 0 rfl) ?_
  refine lv_iconst (v := 2) hx hb d_La_law_641 (by decide) ?_
  refine lv_iadd hx hb d_La_law_642 ?_
  refine va_sld hx hb hX hbl hbA hI.2 (nb_in (nb_add hy 2) (by omega) (by omega)) d_La_law_643 ?_
  refine lv_aload_n hx hb d_La_law_644 rfl (lv_at hl 1 rfl) ?_
  have hIs := hI
  refine gw_Wi (As := [.ref (A 0 0), .int (xs (y4 + (1 : Int32)).toNatClampNeg), .int (xs (y4 + (2 : Int32)).toNatClampNeg), .ref ou]) (rest := []) M hK hI (c_La_spoil l htr A pm cnt fd tt xt li la hC (xs (y4 + (1 : Int32)).toNatClampNeg) (xs (y4 + (2 : Int32)).toNatClampNeg) ou P hU) k_La_spoil m_La_104 rfl hl.1 rfl (Nat.le_of_ble_eq_true rfl) ⟨rfl, rfl, ⟨Nat.le_of_ble_eq_true rfl, Nat.le_of_ble_eq_true rfl⟩, ⟨(by show _ ≤ 601024; omega), (by show _ ≤ 7293034; omega)⟩⟩ d_La_law_645 (fun x1 G2 H locs hw hI => ?_)
  obtain ⟨pm1, cnt1, fd1, tt1, xt1, li1, la1, P1, hC1, hU1, hfr1, hev⟩ := hw
  have hM := hM.fr hfr1 (apU hap hmu)
  have hU := hU1
  have hC := hC1
  obtain ⟨P, hP⟩ : ∃ z, z = P1 := ⟨_, rfl⟩
  rw [← hP] at hU
  refine lv_istore (lv' := [(5, .int x1), (4, .int y4), (3, .ref ou), (2, .ref o), (1, .ref (A 0 0)), (0, .ref b)]) hx hb d_La_law_648 hl (by decide) rfl (fun ls hl => ?_)
  refine lv_aload_n hx hb d_La_law_650 rfl (lv_at hl 3 rfl) ?_
  refine lv_aload_n hx hb d_La_law_651 rfl (lv_at hl 5 rfl) ?_
  refine lv_iload hx hb d_La_law_652 (lv_at hl 1 rfl) ?_
  refine lv_iconst (v := 1) hx hb d_La_law_654 (by decide) ?_
  refine lv_iadd hx hb d_La_law_655 ?_
  refine va_sld hx hb hX hbl hbA hI.2 (nb_in (nb_add hy 1) (by omega) (by omega)) d_La_law_656 ?_
  refine lv_aload_n hx hb d_La_law_657 rfl (lv_at hl 5 rfl) ?_
  refine lv_iload hx hb d_La_law_658 (lv_at hl 1 rfl) ?_
  refine lv_iconst (v := 2) hx hb d_La_law_660 (by decide) ?_
  refine lv_iadd hx hb d_La_law_661 ?_
  refine va_sld hx hb hX hbl hbA hI.2 (nb_in (nb_add hy 2) (by omega) (by omega)) d_La_law_662 ?_
  have hIs := hI
  refine gw_Vi (As := [.int (xs (y4 + (1 : Int32)).toNatClampNeg), .int (xs (y4 + (2 : Int32)).toNatClampNeg)]) (rest := []) M hK hI (c_Mo_spoil l o q B t0 f0 l0 g0 fu fn fx fi fl hM (xs (y4 + (1 : Int32)).toNatClampNeg) (xs (y4 + (2 : Int32)).toNatClampNeg)) k_Mo_spoil m_La_106 hM.O (ci := 6) rfl (fun x hx => ⟨_, hx⟩) rfl hl.1 rfl (Nat.le_of_ble_eq_true rfl) ⟨rfl, rfl, ⟨Nat.le_of_ble_eq_true rfl, Nat.le_of_ble_eq_true rfl⟩, ⟨(by show _ ≤ 601024; omega), (by show _ ≤ 7293034; omega)⟩⟩ d_La_law_663 (fun x3 G4 H locs hw hI => ?_)
  obtain ⟨hw, hf1⟩ := hw
  rcases hw with ⟨hbm, hM1⟩ | ⟨hbm, hbn, hM1⟩ | ⟨hbm, hbn, hM1⟩
  · have hC := hC.fr hf1 hap
    have hU := hf1 _ _ hU hmu
    have hM := hM1
    refine lv_istore (lv' := [(6, .int x3), (5, .int x1), (4, .int y4), (3, .ref ou), (2, .ref o), (1, .ref (A 0 0)), (0, .ref b)]) hx hb d_La_law_666 hl (by decide) rfl (fun ls hl => ?_)
    refine lv_goto (tgt := 905) hx hb d_La_law_668 (by decide) ?_
    exact kk _ _ _ _ pm1 cnt1 fd1 tt1 xt1 li1 la1 B 1 f0 l0 g0 fu fn fx fi fl P (Nat.le_succ _) hC hM hU (hev.2.2.1.trans hT) hI (lv_sub hl [2, 3, 4, 5, 6] rfl)
  · have hC := hC.fr hf1 hap
    have hU := hf1 _ _ hU hmu
    have hM := hM1
    refine lv_istore (lv' := [(6, .int x3), (5, .int x1), (4, .int y4), (3, .ref ou), (2, .ref o), (1, .ref (A 0 0)), (0, .ref b)]) hx hb d_La_law_666 hl (by decide) rfl (fun ls hl => ?_)
    refine lv_goto (tgt := 905) hx hb d_La_law_668 (by decide) ?_
    exact kk _ _ _ _ pm1 cnt1 fd1 tt1 xt1 li1 la1 B 2 f0 l0 g0 fu fn fx fi fl P (Nat.le_succ _) hC hM hU (hev.2.2.1.trans hT) hI (lv_sub hl [2, 3, 4, 5, 6] rfl)
  · have hC := hC.fr hf1 hap
    have hU := hf1 _ _ hU hmu
    have hM := hM1
    refine lv_istore (lv' := [(6, .int x3), (5, .int x1), (4, .int y4), (3, .ref ou), (2, .ref o), (1, .ref (A 0 0)), (0, .ref b)]) hx hb d_La_law_666 hl (by decide) rfl (fun ls hl => ?_)
    refine lv_goto (tgt := 905) hx hb d_La_law_668 (by decide) ?_
    exact kk _ _ _ _ pm1 cnt1 fd1 tt1 xt1 li1 la1 B 0 f0 l0 g0 fu fn fx fi fl P (Nat.le_succ _) hC hM hU (hev.2.2.1.trans hT) hI (lv_sub hl [2, 3, 4, 5, 6] rfl)

set_option maxHeartbeats 4000000 in
set_option maxRecDepth 100000 in
theorem law_10 {p : Program} {l : Launch} {e : Env} {s : State} {m : MethodId} {below : List Frame} {meth : Method} {c : Code} {b L : Nat} {xs : Nat → Int32} (C0 : lw_At p s m meth c b L xs) (htr : l.stackTraces = false) {D : gw_D} (hK : gw_K D s.heap s) (hL : L ≤ 4608) {G : gw_G} {H : Heap} {locs : List Loc} {A : Nat → Nat → Nat} {o ou : Nat} {q : Nat → Nat} {P : Int64 → Prop} {pm : Nat → Nat} {cnt fd : Nat} {tt xt li : Nat → Int32} {la : Nat → Int64} {B : Nat} {t0 : Int32} {f0 l0 g0 : Nat} {fu fn fx fi : Nat → Int32} {fl : Nat → Int64} (hC : cls D G A pm cnt fd tt xt li la) (hM : mdl D G o q B t0 f0 l0 g0 fu fn fx fi fl) (hU : G ou = some (kL D 1 P)) (hap : ∀ k i, inA k i → ¬ mown o q (A k i)) (hmu : ¬ mown o q ou) (hT : tie pm cnt fd tt xt li la t0 f0 l0 fu fn fx fi fl) (hB6 : B ≤ 600) {y4 : Int32} {j9 c0 s0 : Nat} (hy : y4 = nI j9) (h9 : j9 + 9 ≤ L) (hc0 : c0 ≤ 1000) (hs0 : s0 ≤ 80000) (kk : lwK p l e s m below meth c b D A o q ou y4 c0 s0 B) (hI : gw_I D s.heap G s.heap H locs) (ls : Array Slot) (hl : lv_has ls 8 [(4, .int y4), (3, .ref ou), (2, .ref o), (1, .ref (A 0 0)), (0, .ref b)]) : W p l e room_1 s m #[Value.ref b] below meth c H locs c0 s0 (lw_Z below #[Value.ref b] s) (F0 m 671 ls []) := by
  obtain ⟨hx, hb, hr, hml, hown, hts, hX, hbl, hlocks, hgv⟩ := id C0
  have M : CallFix p m c b_La_law 8 s #[Value.ref b] tb R_La := ⟨hx, hb, hml, hown, fun w h => hts w (tb_in h)⟩
  have hbA : ¬ gw_A s.heap b := Nat.not_le.mpr hbl
  refine lv_aload_n hx hb d_La_law_671 rfl (lv_at hl 3 rfl) ?_
  refine lv_aload_n hx hb d_La_law_672 rfl (lv_at hl 4 rfl) ?_
  refine lv_iload hx hb d_La_law_673 (lv_at hl 0 rfl) ?_
  refine lv_iconst (v := 1) hx hb d_La_law_675 (by decide) ?_
  refine lv_iadd hx hb d_La_law_676 ?_
  refine va_sld hx hb hX hbl hbA hI.2 (nb_in (nb_add hy 1) (by omega) (by omega)) d_La_law_677 ?_
  have hIs := hI
  refine gw_Wi (As := [.ref (A 0 0), .int (xs (y4 + (1 : Int32)).toNatClampNeg)]) (rest := []) M hK hI (c_La_cut l htr A pm cnt fd tt xt li la hC (xs (y4 + (1 : Int32)).toNatClampNeg)) k_La_cut m_La_107 rfl hl.1 rfl (Nat.le_of_ble_eq_true rfl) ⟨rfl, rfl, ⟨Nat.le_of_ble_eq_true rfl, Nat.le_of_ble_eq_true rfl⟩, ⟨(by show _ ≤ 601024; omega), (by show _ ≤ 7293034; omega)⟩⟩ d_La_law_678 (fun x1 G2 H locs hw hI => ?_)
  rw [hw] at hI
  refine lv_istore (lv' := [(5, .int x1), (4, .int y4), (3, .ref ou), (2, .ref o), (1, .ref (A 0 0)), (0, .ref b)]) hx hb d_La_law_681 hl (by decide) rfl (fun ls hl => ?_)
  refine lv_aload_n hx hb d_La_law_683 rfl (lv_at hl 3 rfl) ?_
  refine lv_aload_n hx hb d_La_law_684 rfl (lv_at hl 5 rfl) ?_
  refine lv_iload hx hb d_La_law_685 (lv_at hl 1 rfl) ?_
  refine lv_iconst (v := 1) hx hb d_La_law_687 (by decide) ?_
  refine lv_iadd hx hb d_La_law_688 ?_
  refine va_sld hx hb hX hbl hbA hI.2 (nb_in (nb_add hy 1) (by omega) (by omega)) d_La_law_689 ?_
  have hIs := hI
  refine gw_Vv (As := [.int (xs (y4 + (1 : Int32)).toNatClampNeg)]) (rest := []) M hK hI (c_Mo_cut l o q B t0 f0 l0 g0 fu fn fx fi fl hM (xs (y4 + (1 : Int32)).toNatClampNeg)) k_Mo_cut m_La_110 hM.O (ci := 6) rfl (fun x hx => ⟨_, hx⟩) rfl hl.1 rfl (Nat.le_of_ble_eq_true rfl) ⟨rfl, rfl, ⟨Nat.le_of_ble_eq_true rfl, Nat.le_of_ble_eq_true rfl⟩, ⟨(by show _ ≤ 601024; omega), (by show _ ≤ 7293034; omega)⟩⟩ d_La_law_690 (fun G4 H locs hw hI => ?_)
  obtain ⟨hw, hf1⟩ := hw
  rcases hw with ⟨hbm, hM1⟩ | ⟨hbm, nc, hnc, hnc2, hM1⟩
  · have hC := hC.fr hf1 hap
    have hU := hf1 _ _ hU hmu
    have hM := hM1
    refine lv_goto (tgt := 905) hx hb d_La_law_693 (by decide) ?_
    exact kk _ _ _ _ pm cnt fd tt xt li la B 1 f0 l0 g0 fu fn fx fi fl P (Nat.le_succ _) hC hM hU hT hI (lv_sub hl [1, 2, 3, 4, 5] rfl)
  · have hC := hC.fr hf1 hap
    have hU := hf1 _ _ hU hmu
    have hM := hM1
    refine lv_goto (tgt := 905) hx hb d_La_law_693 (by decide) ?_
    exact kk _ _ _ _ pm cnt fd tt xt li la B 0 f0 nc g0 fu fn fx fi fl P (Nat.le_succ _) hC hM hU hT hI (lv_sub hl [1, 2, 3, 4, 5] rfl)

set_option maxHeartbeats 4000000 in
set_option maxRecDepth 100000 in
theorem law_11 {p : Program} {l : Launch} {e : Env} {s : State} {m : MethodId} {below : List Frame} {meth : Method} {c : Code} {b L : Nat} {xs : Nat → Int32} (C0 : lw_At p s m meth c b L xs) (htr : l.stackTraces = false) {D : gw_D} (hK : gw_K D s.heap s) (hL : L ≤ 4608) {G : gw_G} {H : Heap} {locs : List Loc} {A : Nat → Nat → Nat} {o ou : Nat} {q : Nat → Nat} {P : Int64 → Prop} {pm : Nat → Nat} {cnt fd : Nat} {tt xt li : Nat → Int32} {la : Nat → Int64} {B : Nat} {t0 : Int32} {f0 l0 g0 : Nat} {fu fn fx fi : Nat → Int32} {fl : Nat → Int64} (hC : cls D G A pm cnt fd tt xt li la) (hM : mdl D G o q B t0 f0 l0 g0 fu fn fx fi fl) (hU : G ou = some (kL D 1 P)) (hap : ∀ k i, inA k i → ¬ mown o q (A k i)) (hmu : ¬ mown o q ou) (hT : tie pm cnt fd tt xt li la t0 f0 l0 fu fn fx fi fl) (hB6 : B ≤ 600) {y4 : Int32} {j9 c0 s0 : Nat} (hy : y4 = nI j9) (h9 : j9 + 9 ≤ L) (hc0 : c0 ≤ 1000) (hs0 : s0 ≤ 80000) (kk : lwK p l e s m below meth c b D A o q ou y4 c0 s0 B) (hI : gw_I D s.heap G s.heap H locs) (ls : Array Slot) (hl : lv_has ls 8 [(4, .int y4), (3, .ref ou), (2, .ref o), (1, .ref (A 0 0)), (0, .ref b)]) : W p l e room_1 s m #[Value.ref b] below meth c H locs c0 s0 (lw_Z below #[Value.ref b] s) (F0 m 696 ls []) := by
  obtain ⟨hx, hb, hr, hml, hown, hts, hX, hbl, hlocks, hgv⟩ := id C0
  have M : CallFix p m c b_La_law 8 s #[Value.ref b] tb R_La := ⟨hx, hb, hml, hown, fun w h => hts w (tb_in h)⟩
  have hbA : ¬ gw_A s.heap b := Nat.not_le.mpr hbl
  refine lv_aload_n hx hb d_La_law_696 rfl (lv_at hl 3 rfl) ?_
  refine lv_aload_n hx hb d_La_law_697 rfl (lv_at hl 4 rfl) ?_
  refine lv_iload hx hb d_La_law_698 (lv_at hl 0 rfl) ?_
  refine lv_iconst (v := 1) hx hb d_La_law_700 (by decide) ?_
  refine lv_iadd hx hb d_La_law_701 ?_
  refine va_sld hx hb hX hbl hbA hI.2 (nb_in (nb_add hy 1) (by omega) (by omega)) d_La_law_702 ?_
  have hIs := hI
  refine gw_Wi (As := [.ref (A 0 0), .int (xs (y4 + (1 : Int32)).toNatClampNeg)]) (rest := []) M hK hI (c_La_keep l htr A pm cnt fd tt xt li la hC (xs (y4 + (1 : Int32)).toNatClampNeg)) k_La_keep m_La_111 rfl hl.1 rfl (Nat.le_of_ble_eq_true rfl) ⟨rfl, rfl, ⟨Nat.le_of_ble_eq_true rfl, Nat.le_of_ble_eq_true rfl⟩, ⟨(by show _ ≤ 601024; omega), (by show _ ≤ 7293034; omega)⟩⟩ d_La_law_703 (fun x1 G2 H locs hw hI => ?_)
  obtain ⟨hev, hw⟩ := hw
  rw [hw] at hI
  refine lv_istore (lv' := [(5, .int x1), (4, .int y4), (3, .ref ou), (2, .ref o), (1, .ref (A 0 0)), (0, .ref b)]) hx hb d_La_law_706 hl (by decide) rfl (fun ls hl => ?_)
  refine lv_aload_n hx hb d_La_law_708 rfl (lv_at hl 3 rfl) ?_
  refine lv_aload_n hx hb d_La_law_709 rfl (lv_at hl 5 rfl) ?_
  refine lv_iload hx hb d_La_law_710 (lv_at hl 1 rfl) ?_
  refine lv_iconst (v := 1) hx hb d_La_law_712 (by decide) ?_
  refine lv_iadd hx hb d_La_law_713 ?_
  refine va_sld hx hb hX hbl hbA hI.2 (nb_in (nb_add hy 1) (by omega) (by omega)) d_La_law_714 ?_
  have hIs := hI
  refine gw_Vv (As := [.int (xs (y4 + (1 : Int32)).toNatClampNeg)]) (rest := []) M hK hI (c_Mo_keep l o q B t0 f0 l0 g0 fu fn fx fi fl hM (xs (y4 + (1 : Int32)).toNatClampNeg)) k_Mo_keep m_La_113 hM.O (ci := 6) rfl (fun x hx => ⟨_, hx⟩) rfl hl.1 rfl (Nat.le_of_ble_eq_true rfl) ⟨rfl, rfl, ⟨Nat.le_of_ble_eq_true rfl, Nat.le_of_ble_eq_true rfl⟩, ⟨(by show _ ≤ 601024; omega), (by show _ ≤ 7293034; omega)⟩⟩ d_La_law_715 (fun G4 H locs hw hI => ?_)
  obtain ⟨hw, hf1⟩ := hw
  rcases hw with ⟨hbm, hM1⟩ | ⟨hbm, hM1⟩
  · have hC := hC.fr hf1 hap
    have hU := hf1 _ _ hU hmu
    have hM := hM1
    refine lv_goto (tgt := 905) hx hb d_La_law_718 (by decide) ?_
    exact kk _ _ _ _ pm cnt fd tt xt li la B 1 f0 l0 g0 fu fn fx fi fl P (Nat.le_succ _) hC hM hU hT hI (lv_sub hl [1, 2, 3, 4, 5] rfl)
  · have hC := hC.fr hf1 hap
    have hU := hf1 _ _ hU hmu
    have hM := hM1
    refine lv_goto (tgt := 905) hx hb d_La_law_718 (by decide) ?_
    exact kk _ _ _ _ pm cnt fd tt xt li la B 0 f0 l0 g0 fu fn fx fi fl P (Nat.le_succ _) hC hM hU hT hI (lv_sub hl [1, 2, 3, 4, 5] rfl)

set_option maxHeartbeats 4000000 in
set_option maxRecDepth 100000 in
theorem law_12 {p : Program} {l : Launch} {e : Env} {s : State} {m : MethodId} {below : List Frame} {meth : Method} {c : Code} {b L : Nat} {xs : Nat → Int32} (C0 : lw_At p s m meth c b L xs) (htr : l.stackTraces = false) {D : gw_D} (hK : gw_K D s.heap s) (hL : L ≤ 4608) {G : gw_G} {H : Heap} {locs : List Loc} {A : Nat → Nat → Nat} {o ou : Nat} {q : Nat → Nat} {P : Int64 → Prop} {pm : Nat → Nat} {cnt fd : Nat} {tt xt li : Nat → Int32} {la : Nat → Int64} {B : Nat} {t0 : Int32} {f0 l0 g0 : Nat} {fu fn fx fi : Nat → Int32} {fl : Nat → Int64} (hC : cls D G A pm cnt fd tt xt li la) (hM : mdl D G o q B t0 f0 l0 g0 fu fn fx fi fl) (hU : G ou = some (kL D 1 P)) (hap : ∀ k i, inA k i → ¬ mown o q (A k i)) (hmu : ¬ mown o q ou) (hT : tie pm cnt fd tt xt li la t0 f0 l0 fu fn fx fi fl) (hB6 : B ≤ 600) {y4 : Int32} {j9 c0 s0 : Nat} (hy : y4 = nI j9) (h9 : j9 + 9 ≤ L) (hc0 : c0 ≤ 1000) (hs0 : s0 ≤ 80000) (kk : lwK p l e s m below meth c b D A o q ou y4 c0 s0 B) (hI : gw_I D s.heap G s.heap H locs) (ls : Array Slot) (hl : lv_has ls 8 [(4, .int y4), (3, .ref ou), (2, .ref o), (1, .ref (A 0 0)), (0, .ref b)]) : W p l e room_1 s m #[Value.ref b] below meth c H locs c0 s0 (lw_Z below #[Value.ref b] s) (F0 m 721 ls []) := by
  obtain ⟨hx, hb, hr, hml, hown, hts, hX, hbl, hlocks, hgv⟩ := id C0
  have M : CallFix p m c b_La_law 8 s #[Value.ref b] tb R_La := ⟨hx, hb, hml, hown, fun w h => hts w (tb_in h)⟩
  have hbA : ¬ gw_A s.heap b := Nat.not_le.mpr hbl
  refine lv_aload_n hx hb d_La_law_721 rfl (lv_at hl 3 rfl) ?_
  refine lv_aload_n hx hb d_La_law_722 rfl (lv_at hl 4 rfl) ?_
  refine lv_iload hx hb d_La_law_723 (lv_at hl 0 rfl) ?_
  refine lv_iconst (v := 1) hx hb d_La_law_725 (by decide) ?_
  refine lv_iadd hx hb d_La_law_726 ?_
  refine va_sld hx hb hX hbl hbA hI.2 (nb_in (nb_add hy 1) (by omega) (by omega)) d_La_law_727 ?_
  refine lv_aload_n hx hb d_La_law_728 rfl (lv_at hl 1 rfl) ?_
  have hIs := hI
  refine gw_Wi (As := [.ref (A 0 0), .int (xs (y4 + (1 : Int32)).toNatClampNeg), .ref ou]) (rest := []) M hK hI (c_La_bring l htr A pm cnt fd tt xt li la hC (xs (y4 + (1 : Int32)).toNatClampNeg) ou P hU) k_La_bring m_La_114 rfl hl.1 rfl (Nat.le_of_ble_eq_true rfl) ⟨rfl, rfl, ⟨Nat.le_of_ble_eq_true rfl, Nat.le_of_ble_eq_true rfl⟩, ⟨(by show _ ≤ 601024; omega), (by show _ ≤ 7293034; omega)⟩⟩ d_La_law_729 (fun x1 G2 H locs hw hI => ?_)
  obtain ⟨pm1, cnt1, fd1, tt1, xt1, li1, la1, P1, hC1, hU1, hfr1, hev⟩ := hw
  have hM := hM.fr hfr1 (apU hap hmu)
  have hU := hU1
  have hC := hC1
  obtain ⟨P, hP⟩ : ∃ z, z = P1 := ⟨_, rfl⟩
  rw [← hP] at hU
  refine lv_istore (lv' := [(5, .int x1), (4, .int y4), (3, .ref ou), (2, .ref o), (1, .ref (A 0 0)), (0, .ref b)]) hx hb d_La_law_732 hl (by decide) rfl (fun ls hl => ?_)
  refine lv_aload_n hx hb d_La_law_734 rfl (lv_at hl 3 rfl) ?_
  refine lv_aload_n hx hb d_La_law_735 rfl (lv_at hl 5 rfl) ?_
  refine lv_iload hx hb d_La_law_736 (lv_at hl 1 rfl) ?_
  refine lv_iconst (v := 1) hx hb d_La_law_738 (by decide) ?_
  refine lv_iadd hx hb d_La_law_739 ?_
  refine va_sld hx hb hX hbl hbA hI.2 (nb_in (nb_add hy 1) (by omega) (by omega)) d_La_law_740 ?_
  have hIs := hI
  refine gw_Vi (As := [.int (xs (y4 + (1 : Int32)).toNatClampNeg)]) (rest := []) M hK hI (c_Mo_bring l o q B t0 f0 l0 g0 fu fn fx fi fl hM (xs (y4 + (1 : Int32)).toNatClampNeg)) k_Mo_bring m_La_117 hM.O (ci := 6) rfl (fun x hx => ⟨_, hx⟩) rfl hl.1 rfl (Nat.le_of_ble_eq_true rfl) ⟨rfl, rfl, ⟨Nat.le_of_ble_eq_true rfl, Nat.le_of_ble_eq_true rfl⟩, ⟨(by show _ ≤ 601024; omega), (by show _ ≤ 7293034; omega)⟩⟩ d_La_law_741 (fun x3 G4 H locs hw hI => ?_)
  obtain ⟨hw, hf1⟩ := hw
  rcases hw with ⟨hbm, hM1⟩ | ⟨hbm, ⟨h_x3, hM1⟩ | ⟨nc, hnc, h_x3, hM1⟩⟩
  · have hC := hC.fr hf1 hap
    have hU := hf1 _ _ hU hmu
    have hM := hM1
    refine lv_istore (lv' := [(6, .int x3), (5, .int x1), (4, .int y4), (3, .ref ou), (2, .ref o), (1, .ref (A 0 0)), (0, .ref b)]) hx hb d_La_law_744 hl (by decide) rfl (fun ls hl => ?_)
    refine lv_goto (tgt := 905) hx hb d_La_law_746 (by decide) ?_
    exact kk _ _ _ _ pm1 cnt1 fd1 tt1 xt1 li1 la1 B 1 f0 l0 g0 fu fn fx fi fl P (Nat.le_succ _) hC hM hU (hev.2.2.1.trans hT) hI (lv_sub hl [2, 3, 4, 5, 6] rfl)
  · have hC := hC.fr hf1 hap
    have hU := hf1 _ _ hU hmu
    have hM := hM1
    refine lv_istore (lv' := [(6, .int x3), (5, .int x1), (4, .int y4), (3, .ref ou), (2, .ref o), (1, .ref (A 0 0)), (0, .ref b)]) hx hb d_La_law_744 hl (by decide) rfl (fun ls hl => ?_)
    refine lv_goto (tgt := 905) hx hb d_La_law_746 (by decide) ?_
    exact kk _ _ _ _ pm1 cnt1 fd1 tt1 xt1 li1 la1 B 0 f0 l0 g0 fu fn fx fi fl P (Nat.le_succ _) hC hM hU (hev.2.2.1.trans hT) hI (lv_sub hl [2, 3, 4, 5, 6] rfl)
  · have hC := hC.fr hf1 hap
    have hU := hf1 _ _ hU hmu
    have hM := hM1
    refine lv_istore (lv' := [(6, .int x3), (5, .int x1), (4, .int y4), (3, .ref ou), (2, .ref o), (1, .ref (A 0 0)), (0, .ref b)]) hx hb d_La_law_744 hl (by decide) rfl (fun ls hl => ?_)
    refine lv_goto (tgt := 905) hx hb d_La_law_746 (by decide) ?_
    exact kk _ _ _ _ pm1 cnt1 fd1 tt1 xt1 li1 la1 B 0 f0 nc g0 fu fn fx fi fl P (Nat.le_succ _) hC hM hU (hev.2.2.1.trans hT) hI (lv_sub hl [2, 3, 4, 5, 6] rfl)

set_option maxHeartbeats 4000000 in
set_option maxRecDepth 100000 in
theorem law_13 {p : Program} {l : Launch} {e : Env} {s : State} {m : MethodId} {below : List Frame} {meth : Method} {c : Code} {b L : Nat} {xs : Nat → Int32} (C0 : lw_At p s m meth c b L xs) (htr : l.stackTraces = false) {D : gw_D} (hK : gw_K D s.heap s) (hL : L ≤ 4608) {G : gw_G} {H : Heap} {locs : List Loc} {A : Nat → Nat → Nat} {o ou : Nat} {q : Nat → Nat} {P : Int64 → Prop} {pm : Nat → Nat} {cnt fd : Nat} {tt xt li : Nat → Int32} {la : Nat → Int64} {B : Nat} {t0 : Int32} {f0 l0 g0 : Nat} {fu fn fx fi : Nat → Int32} {fl : Nat → Int64} (hC : cls D G A pm cnt fd tt xt li la) (hM : mdl D G o q B t0 f0 l0 g0 fu fn fx fi fl) (hU : G ou = some (kL D 1 P)) (hap : ∀ k i, inA k i → ¬ mown o q (A k i)) (hmu : ¬ mown o q ou) (hT : tie pm cnt fd tt xt li la t0 f0 l0 fu fn fx fi fl) (hB6 : B ≤ 600) {y4 : Int32} {j9 c0 s0 : Nat} (hy : y4 = nI j9) (h9 : j9 + 9 ≤ L) (hc0 : c0 ≤ 1000) (hs0 : s0 ≤ 80000) (kk : lwK p l e s m below meth c b D A o q ou y4 c0 s0 B) (hI : gw_I D s.heap G s.heap H locs) (ls : Array Slot) (hl : lv_has ls 8 [(4, .int y4), (3, .ref ou), (2, .ref o), (1, .ref (A 0 0)), (0, .ref b)]) : W p l e room_1 s m #[Value.ref b] below meth c H locs c0 s0 (lw_Z below #[Value.ref b] s) (F0 m 749 ls []) := by
  obtain ⟨hx, hb, hr, hml, hown, hts, hX, hbl, hlocks, hgv⟩ := id C0
  have M : CallFix p m c b_La_law 8 s #[Value.ref b] tb R_La := ⟨hx, hb, hml, hown, fun w h => hts w (tb_in h)⟩
  have hbA : ¬ gw_A s.heap b := Nat.not_le.mpr hbl
  refine lv_aload_n hx hb d_La_law_749 rfl (lv_at hl 3 rfl) ?_
  have hIs := hI
  refine gw_Vi (As := []) (rest := []) M hK hI (c_Gp_open l A pm cnt fd tt xt li la hC ) k_Gp_open m_La_118 hC.O (ci := 5) rfl (fun x hx => ⟨_, hx⟩) rfl hl.1 rfl (Nat.le_of_ble_eq_true rfl) ⟨rfl, rfl, ⟨Nat.le_of_ble_eq_true rfl, Nat.le_of_ble_eq_true rfl⟩, ⟨(by show _ ≤ 601024; omega), (by show _ ≤ 7293034; omega)⟩⟩ d_La_law_750 (fun x1 G2 H locs hw hI => ?_)
  rw [hw] at hI
  refine lv_pop hx hb d_La_law_753 rfl ?_
  refine lv_aload_n hx hb d_La_law_754 rfl (lv_at hl 2 rfl) ?_
  have hIs := hI
  refine gw_Vi (As := []) (rest := []) M hK hI (c_Mo_open l o q B t0 f0 l0 g0 fu fn fx fi fl hM hB6) k_Mo_open m_La_121 hM.O (ci := 6) rfl (fun x hx => ⟨_, hx⟩) rfl hl.1 rfl (Nat.le_of_ble_eq_true rfl) ⟨rfl, rfl, ⟨Nat.le_of_ble_eq_true rfl, Nat.le_of_ble_eq_true rfl⟩, ⟨(by show _ ≤ 601024; omega), (by show _ ≤ 7293034; omega)⟩⟩ d_La_law_755 (fun x3 G4 H locs hw hI => ?_)
  obtain ⟨g1, B1, hB1, hM1, hf1⟩ := hw
  have hC := hC.fr hf1 hap
  have hU := hf1 _ _ hU hmu
  have hM := hM1
  refine lv_pop hx hb d_La_law_758 rfl ?_
  refine lv_goto (tgt := 905) hx hb d_La_law_759 (by decide) ?_
  refine W.widen (k := c0 + 1) (n := s0 + 6) (Nat.le_add_right _ _) (Nat.le_add_right _ _) ?_
  exact kk _ _ _ _ pm cnt fd tt xt li la B1 0 f0 l0 g1 fu fn fx fi fl P hB1 hC hM hU hT hI (lv_sub hl [0, 1, 2, 3, 4] rfl)

set_option maxHeartbeats 4000000 in
set_option maxRecDepth 100000 in
theorem law_14 {p : Program} {l : Launch} {e : Env} {s : State} {m : MethodId} {below : List Frame} {meth : Method} {c : Code} {b L : Nat} {xs : Nat → Int32} (C0 : lw_At p s m meth c b L xs) (htr : l.stackTraces = false) {D : gw_D} (hK : gw_K D s.heap s) (hL : L ≤ 4608) {G : gw_G} {H : Heap} {locs : List Loc} {A : Nat → Nat → Nat} {o ou : Nat} {q : Nat → Nat} {P : Int64 → Prop} {pm : Nat → Nat} {cnt fd : Nat} {tt xt li : Nat → Int32} {la : Nat → Int64} {B : Nat} {t0 : Int32} {f0 l0 g0 : Nat} {fu fn fx fi : Nat → Int32} {fl : Nat → Int64} (hC : cls D G A pm cnt fd tt xt li la) (hM : mdl D G o q B t0 f0 l0 g0 fu fn fx fi fl) (hU : G ou = some (kL D 1 P)) (hap : ∀ k i, inA k i → ¬ mown o q (A k i)) (hmu : ¬ mown o q ou) (hT : tie pm cnt fd tt xt li la t0 f0 l0 fu fn fx fi fl) (hB6 : B ≤ 600) {y4 : Int32} {j9 c0 s0 : Nat} (hy : y4 = nI j9) (h9 : j9 + 9 ≤ L) (hc0 : c0 ≤ 1000) (hs0 : s0 ≤ 80000) (kk : lwK p l e s m below meth c b D A o q ou y4 c0 s0 B) (hI : gw_I D s.heap G s.heap H locs) (ls : Array Slot) (hl : lv_has ls 8 [(4, .int y4), (3, .ref ou), (2, .ref o), (1, .ref (A 0 0)), (0, .ref b)]) : W p l e room_1 s m #[Value.ref b] below meth c H locs c0 s0 (lw_Z below #[Value.ref b] s) (F0 m 762 ls []) := by
  obtain ⟨hx, hb, hr, hml, hown, hts, hX, hbl, hlocks, hgv⟩ := id C0
  have M : CallFix p m c b_La_law 8 s #[Value.ref b] tb R_La := ⟨hx, hb, hml, hown, fun w h => hts w (tb_in h)⟩
  have hbA : ¬ gw_A s.heap b := Nat.not_le.mpr hbl
  refine lv_aload_n hx hb d_La_law_762 rfl (lv_at hl 3 rfl) ?_
  have hIs := hI
  refine gw_Vi (As := []) (rest := []) M hK hI (c_Gp_got l A pm cnt fd tt xt li la hC ) k_Gp_got m_La_122 hC.O (ci := 5) rfl (fun x hx => ⟨_, hx⟩) rfl hl.1 rfl (Nat.le_of_ble_eq_true rfl) ⟨rfl, rfl, ⟨Nat.le_of_ble_eq_true rfl, Nat.le_of_ble_eq_true rfl⟩, ⟨(by show _ ≤ 601024; omega), (by show _ ≤ 7293034; omega)⟩⟩ d_La_law_763 (fun x1 G2 H locs hw hI => ?_)
  rw [hw] at hI
  refine lv_pop hx hb d_La_law_766 rfl ?_
  refine lv_aload_n hx hb d_La_law_767 rfl (lv_at hl 2 rfl) ?_
  have hIs := hI
  refine gw_Vi (As := []) (rest := []) M hK hI (c_Mo_got l o q B t0 f0 l0 g0 fu fn fx fi fl hM ) k_Mo_got m_La_125 hM.O (ci := 6) rfl (fun x hx => ⟨_, hx⟩) rfl hl.1 rfl (Nat.le_of_ble_eq_true rfl) ⟨rfl, rfl, ⟨Nat.le_of_ble_eq_true rfl, Nat.le_of_ble_eq_true rfl⟩, ⟨(by show _ ≤ 601024; omega), (by show _ ≤ 7293034; omega)⟩⟩ d_La_law_768 (fun x3 G4 H locs hw hI => ?_)
  obtain ⟨h_x3, hM1, hf1⟩ := hw
  have hC := hC.fr hf1 hap
  have hU := hf1 _ _ hU hmu
  have hM := hM1
  refine lv_pop hx hb d_La_law_771 rfl ?_
  refine lv_goto (tgt := 905) hx hb d_La_law_772 (by decide) ?_
  refine W.widen (k := c0 + 1) (n := s0 + 6) (Nat.le_add_right _ _) (Nat.le_add_right _ _) ?_
  exact kk _ _ _ _ pm cnt fd tt xt li la B 0 f0 l0 g0 fu fn fx fi fl P (Nat.le_succ _) hC hM hU hT hI (lv_sub hl [0, 1, 2, 3, 4] rfl)

set_option maxHeartbeats 4000000 in
set_option maxRecDepth 100000 in
theorem law_15 {p : Program} {l : Launch} {e : Env} {s : State} {m : MethodId} {below : List Frame} {meth : Method} {c : Code} {b L : Nat} {xs : Nat → Int32} (C0 : lw_At p s m meth c b L xs) (htr : l.stackTraces = false) {D : gw_D} (hK : gw_K D s.heap s) (hL : L ≤ 4608) {G : gw_G} {H : Heap} {locs : List Loc} {A : Nat → Nat → Nat} {o ou : Nat} {q : Nat → Nat} {P : Int64 → Prop} {pm : Nat → Nat} {cnt fd : Nat} {tt xt li : Nat → Int32} {la : Nat → Int64} {B : Nat} {t0 : Int32} {f0 l0 g0 : Nat} {fu fn fx fi : Nat → Int32} {fl : Nat → Int64} (hC : cls D G A pm cnt fd tt xt li la) (hM : mdl D G o q B t0 f0 l0 g0 fu fn fx fi fl) (hU : G ou = some (kL D 1 P)) (hap : ∀ k i, inA k i → ¬ mown o q (A k i)) (hmu : ¬ mown o q ou) (hT : tie pm cnt fd tt xt li la t0 f0 l0 fu fn fx fi fl) (hB6 : B ≤ 600) {y4 : Int32} {j9 c0 s0 : Nat} (hy : y4 = nI j9) (h9 : j9 + 9 ≤ L) (hc0 : c0 ≤ 1000) (hs0 : s0 ≤ 80000) (kk : lwK p l e s m below meth c b D A o q ou y4 c0 s0 B) (hI : gw_I D s.heap G s.heap H locs) (ls : Array Slot) (hl : lv_has ls 8 [(4, .int y4), (3, .ref ou), (2, .ref o), (1, .ref (A 0 0)), (0, .ref b)]) : W p l e room_1 s m #[Value.ref b] below meth c H locs c0 s0 (lw_Z below #[Value.ref b] s) (F0 m 775 ls []) := by
  obtain ⟨hx, hb, hr, hml, hown, hts, hX, hbl, hlocks, hgv⟩ := id C0
  have M : CallFix p m c b_La_law 8 s #[Value.ref b] tb R_La := ⟨hx, hb, hml, hown, fun w h => hts w (tb_in h)⟩
  have hbA : ¬ gw_A s.heap b := Nat.not_le.mpr hbl
  refine lv_aload_n hx hb d_La_law_775 rfl (lv_at hl 3 rfl) ?_
  refine lv_aload_n hx hb d_La_law_776 rfl (lv_at hl 4 rfl) ?_
  refine lv_iload hx hb d_La_law_777 (lv_at hl 0 rfl) ?_
  refine lv_iconst (v := 1) hx hb d_La_law_779 (by decide) ?_
  refine lv_iadd hx hb d_La_law_780 ?_
  refine va_sld hx hb hX hbl hbA hI.2 (nb_in (nb_add hy 1) (by omega) (by omega)) d_La_law_781 ?_
  have hIs := hI
  refine gw_Vl (As := [.int (xs (y4 + (1 : Int32)).toNatClampNeg)]) (rest := []) M hK hI (c_Gp_data l A pm cnt fd tt xt li la hC (xs (y4 + (1 : Int32)).toNatClampNeg)) k_Gp_data m_La_126 hC.O (ci := 5) rfl (fun x hx => ⟨_, hx⟩) rfl hl.1 rfl (Nat.le_of_ble_eq_true rfl) ⟨rfl, rfl, ⟨Nat.le_of_ble_eq_true rfl, Nat.le_of_ble_eq_true rfl⟩, ⟨(by show _ ≤ 601024; omega), (by show _ ≤ 7293034; omega)⟩⟩ d_La_law_782 (fun x1 G2 H locs hw hI => ?_)
  rw [hw] at hI
  refine lv_pop2_2 hx hb d_La_law_785 rfl ?_
  refine lv_aload_n hx hb d_La_law_786 rfl (lv_at hl 2 rfl) ?_
  refine lv_aload_n hx hb d_La_law_787 rfl (lv_at hl 4 rfl) ?_
  refine lv_iload hx hb d_La_law_788 (lv_at hl 0 rfl) ?_
  refine lv_iconst (v := 1) hx hb d_La_law_790 (by decide) ?_
  refine lv_iadd hx hb d_La_law_791 ?_
  refine va_sld hx hb hX hbl hbA hI.2 (nb_in (nb_add hy 1) (by omega) (by omega)) d_La_law_792 ?_
  have hIs := hI
  refine gw_Vl (As := [.int (xs (y4 + (1 : Int32)).toNatClampNeg)]) (rest := []) M hK hI (c_Mo_data l o q B t0 f0 l0 g0 fu fn fx fi fl hM (xs (y4 + (1 : Int32)).toNatClampNeg)) k_Mo_data m_La_129 hM.O (ci := 6) rfl (fun x hx => ⟨_, hx⟩) rfl hl.1 rfl (Nat.le_of_ble_eq_true rfl) ⟨rfl, rfl, ⟨Nat.le_of_ble_eq_true rfl, Nat.le_of_ble_eq_true rfl⟩, ⟨(by show _ ≤ 601024; omega), (by show _ ≤ 7293034; omega)⟩⟩ d_La_law_793 (fun x3 G4 H locs hw hI => ?_)
  obtain ⟨hM1, hf1⟩ := hw
  have hC := hC.fr hf1 hap
  have hU := hf1 _ _ hU hmu
  have hM := hM1
  refine lv_pop2_2 hx hb d_La_law_796 rfl ?_
  refine lv_goto (tgt := 905) hx hb d_La_law_797 (by decide) ?_
  refine W.widen (k := c0 + 1) (n := s0 + 6) (Nat.le_add_right _ _) (Nat.le_add_right _ _) ?_
  exact kk _ _ _ _ pm cnt fd tt xt li la B 0 f0 l0 g0 fu fn fx fi fl P (Nat.le_succ _) hC hM hU hT hI (lv_sub hl [0, 1, 2, 3, 4] rfl)

set_option maxHeartbeats 4000000 in
set_option maxRecDepth 100000 in
theorem law_16 {p : Program} {l : Launch} {e : Env} {s : State} {m : MethodId} {below : List Frame} {meth : Method} {c : Code} {b L : Nat} {xs : Nat → Int32} (C0 : lw_At p s m meth c b L xs) (htr : l.stackTraces = false) {D : gw_D} (hK : gw_K D s.heap s) (hL : L ≤ 4608) {G : gw_G} {H : Heap} {locs : List Loc} {A : Nat → Nat → Nat} {o ou : Nat} {q : Nat → Nat} {P : Int64 → Prop} {pm : Nat → Nat} {cnt fd : Nat} {tt xt li : Nat → Int32} {la : Nat → Int64} {B : Nat} {t0 : Int32} {f0 l0 g0 : Nat} {fu fn fx fi : Nat → Int32} {fl : Nat → Int64} (hC : cls D G A pm cnt fd tt xt li la) (hM : mdl D G o q B t0 f0 l0 g0 fu fn fx fi fl) (hU : G ou = some (kL D 1 P)) (hap : ∀ k i, inA k i → ¬ mown o q (A k i)) (hmu : ¬ mown o q ou) (hT : tie pm cnt fd tt xt li la t0 f0 l0 fu fn fx fi fl) (hB6 : B ≤ 600) {y4 : Int32} {j9 c0 s0 : Nat} (hy : y4 = nI j9) (h9 : j9 + 9 ≤ L) (hc0 : c0 ≤ 1000) (hs0 : s0 ≤ 80000) (kk : lwK p l e s m below meth c b D A o q ou y4 c0 s0 B) (hI : gw_I D s.heap G s.heap H locs) (ls : Array Slot) (hl : lv_has ls 8 [(4, .int y4), (3, .ref ou), (2, .ref o), (1, .ref (A 0 0)), (0, .ref b)]) : W p l e room_1 s m #[Value.ref b] below meth c H locs c0 s0 (lw_Z below #[Value.ref b] s) (F0 m 800 ls []) := by
  obtain ⟨hx, hb, hr, hml, hown, hts, hX, hbl, hlocks, hgv⟩ := id C0
  have M : CallFix p m c b_La_law 8 s #[Value.ref b] tb R_La := ⟨hx, hb, hml, hown, fun w h => hts w (tb_in h)⟩
  have hbA : ¬ gw_A s.heap b := Nat.not_le.mpr hbl
  refine lv_aload_n hx hb d_La_law_800 rfl (lv_at hl 3 rfl) ?_
  refine lv_aload_n hx hb d_La_law_801 rfl (lv_at hl 4 rfl) ?_
  refine lv_iload hx hb d_La_law_802 (lv_at hl 0 rfl) ?_
  refine lv_iconst (v := 1) hx hb d_La_law_804 (by decide) ?_
  refine lv_iadd hx hb d_La_law_805 ?_
  refine va_sld hx hb hX hbl hbA hI.2 (nb_in (nb_add hy 1) (by omega) (by omega)) d_La_law_806 ?_
  refine lv_aload_n hx hb d_La_law_807 rfl (lv_at hl 4 rfl) ?_
  refine lv_iload hx hb d_La_law_808 (lv_at hl 0 rfl) ?_
  refine lv_iconst (v := 2) hx hb d_La_law_810 (by decide) ?_
  refine lv_iadd hx hb d_La_law_811 ?_
  refine va_sld hx hb hX hbl hbA hI.2 (nb_in (nb_add hy 2) (by omega) (by omega)) d_La_law_812 ?_
  refine lv_aload_n hx hb d_La_law_813 rfl (lv_at hl 1 rfl) ?_
  have hIs := hI
  refine gw_Wi (As := [.ref (A 0 0), .int (xs (y4 + (1 : Int32)).toNatClampNeg), .int (xs (y4 + (2 : Int32)).toNatClampNeg), .ref ou]) (rest := []) M hK hI (c_La_told l htr A pm cnt fd tt xt li la hC (xs (y4 + (1 : Int32)).toNatClampNeg) (xs (y4 + (2 : Int32)).toNatClampNeg) ou P hU) k_La_told m_La_130 rfl hl.1 rfl (Nat.le_of_ble_eq_true rfl) ⟨rfl, rfl, ⟨Nat.le_of_ble_eq_true rfl, Nat.le_of_ble_eq_true rfl⟩, ⟨(by show _ ≤ 601024; omega), (by show _ ≤ 7293034; omega)⟩⟩ d_La_law_814 (fun x1 G2 H locs hw hI => ?_)
  obtain ⟨pm1, cnt1, fd1, tt1, xt1, li1, la1, P1, hC1, hU1, hfr1, hev⟩ := hw
  have hM := hM.fr hfr1 (apU hap hmu)
  have hU := hU1
  have hC := hC1
  obtain ⟨P, hP⟩ : ∃ z, z = P1 := ⟨_, rfl⟩
  rw [← hP] at hU
  refine lv_istore (lv' := [(5, .int x1), (4, .int y4), (3, .ref ou), (2, .ref o), (1, .ref (A 0 0)), (0, .ref b)]) hx hb d_La_law_817 hl (by decide) rfl (fun ls hl => ?_)
  refine lv_aload_n hx hb d_La_law_819 rfl (lv_at hl 3 rfl) ?_
  refine lv_aload_n hx hb d_La_law_820 rfl (lv_at hl 5 rfl) ?_
  refine lv_iload hx hb d_La_law_821 (lv_at hl 1 rfl) ?_
  refine lv_iconst (v := 1) hx hb d_La_law_823 (by decide) ?_
  refine lv_iadd hx hb d_La_law_824 ?_
  refine va_sld hx hb hX hbl hbA hI.2 (nb_in (nb_add hy 1) (by omega) (by omega)) d_La_law_825 ?_
  refine lv_aload_n hx hb d_La_law_826 rfl (lv_at hl 5 rfl) ?_
  refine lv_iload hx hb d_La_law_827 (lv_at hl 1 rfl) ?_
  refine lv_iconst (v := 2) hx hb d_La_law_829 (by decide) ?_
  refine lv_iadd hx hb d_La_law_830 ?_
  refine va_sld hx hb hX hbl hbA hI.2 (nb_in (nb_add hy 2) (by omega) (by omega)) d_La_law_831 ?_
  obtain ⟨s1, hfi⟩ := isFi.ex fu fn (xs (y4 + (1 : Int32)).toNatClampNeg)
  by_cases hs1 : s1 < 16
  · have hIs := hI
    refine gw_Vl (As := [.int (xs (y4 + (1 : Int32)).toNatClampNeg), .int (xs (y4 + (2 : Int32)).toNatClampNeg)]) (rest := []) M hK hI (c_Mo_toldf l o q B t0 f0 l0 g0 fu fn fx fi fl hM (xs (y4 + (1 : Int32)).toNatClampNeg) s1 hfi hs1 (xs (y4 + (2 : Int32)).toNatClampNeg)) k_Mo_told m_La_132 hM.O (ci := 6) rfl (fun x hx => ⟨_, hx⟩) rfl hl.1 rfl (Nat.le_of_ble_eq_true rfl) ⟨rfl, rfl, ⟨Nat.le_of_ble_eq_true rfl, Nat.le_of_ble_eq_true rfl⟩, ⟨(by show _ ≤ 601024; omega), (by show _ ≤ 7293034; omega)⟩⟩ d_La_law_832 (fun x3 G4 H locs hw hI => ?_)
    obtain ⟨hw, hf1⟩ := hw
    rcases hw with ⟨hbm, hM1⟩ | ⟨hbm, hM1⟩
    · have hC := hC.fr hf1 hap
      have hU := hf1 _ _ hU hmu
      have hM := hM1
      refine lv_lstore (lv' := [(6, .long x3), (5, .int x1), (4, .int y4), (3, .ref ou), (2, .ref o), (1, .ref (A 0 0)), (0, .ref b)]) hx hb d_La_law_835 hl (by decide) rfl (fun ls hl => ?_)
      refine lv_goto (tgt := 905) hx hb d_La_law_837 (by decide) ?_
      exact kk _ _ _ _ pm1 cnt1 fd1 tt1 xt1 li1 la1 B 2 f0 l0 g0 fu fn fx fi fl P (Nat.le_succ _) hC hM hU (hev.2.2.1.trans hT) hI (lv_sub hl [2, 3, 4, 5, 6] rfl)
    · have hC := hC.fr hf1 hap
      have hU := hf1 _ _ hU hmu
      have hM := hM1
      refine lv_lstore (lv' := [(6, .long x3), (5, .int x1), (4, .int y4), (3, .ref ou), (2, .ref o), (1, .ref (A 0 0)), (0, .ref b)]) hx hb d_La_law_835 hl (by decide) rfl (fun ls hl => ?_)
      refine lv_goto (tgt := 905) hx hb d_La_law_837 (by decide) ?_
      exact kk _ _ _ _ pm1 cnt1 fd1 tt1 xt1 li1 la1 B 0 f0 l0 g0 fu fn fx fi fl P (Nat.le_succ _) hC hM hU (hev.2.2.1.trans hT) hI (lv_sub hl [2, 3, 4, 5, 6] rfl)
  · have hfi := hfi.none hs1
    have hIs := hI
    refine gw_Vl (As := [.int (xs (y4 + (1 : Int32)).toNatClampNeg), .int (xs (y4 + (2 : Int32)).toNatClampNeg)]) (rest := []) M hK hI (c_Mo_toldn l o q B t0 f0 l0 g0 fu fn fx fi fl hM (xs (y4 + (1 : Int32)).toNatClampNeg) hfi (xs (y4 + (2 : Int32)).toNatClampNeg)) k_Mo_told m_La_132 hM.O (ci := 6) rfl (fun x hx => ⟨_, hx⟩) rfl hl.1 rfl (Nat.le_of_ble_eq_true rfl) ⟨rfl, rfl, ⟨Nat.le_of_ble_eq_true rfl, Nat.le_of_ble_eq_true rfl⟩, ⟨(by show _ ≤ 601024; omega), (by show _ ≤ 7293034; omega)⟩⟩ d_La_law_832 (fun x5 G6 H locs hw hI => ?_)
    obtain ⟨hM1, hf1⟩ := hw
    have hC := hC.fr hf1 hap
    have hU := hf1 _ _ hU hmu
    have hM := hM1
    refine lv_lstore (lv' := [(6, .long x5), (5, .int x1), (4, .int y4), (3, .ref ou), (2, .ref o), (1, .ref (A 0 0)), (0, .ref b)]) hx hb d_La_law_835 hl (by decide) rfl (fun ls hl => ?_)
    refine lv_goto (tgt := 905) hx hb d_La_law_837 (by decide) ?_
    exact kk _ _ _ _ pm1 cnt1 fd1 tt1 xt1 li1 la1 B 1 f0 l0 g0 fu fn fx fi fl P (Nat.le_succ _) hC hM hU (hev.2.2.1.trans hT) hI (lv_sub hl [2, 3, 4, 5, 6] rfl)

set_option maxHeartbeats 4000000 in
set_option maxRecDepth 100000 in
theorem law_17 {p : Program} {l : Launch} {e : Env} {s : State} {m : MethodId} {below : List Frame} {meth : Method} {c : Code} {b L : Nat} {xs : Nat → Int32} (C0 : lw_At p s m meth c b L xs) (htr : l.stackTraces = false) {D : gw_D} (hK : gw_K D s.heap s) (hL : L ≤ 4608) {G : gw_G} {H : Heap} {locs : List Loc} {A : Nat → Nat → Nat} {o ou : Nat} {q : Nat → Nat} {P : Int64 → Prop} {pm : Nat → Nat} {cnt fd : Nat} {tt xt li : Nat → Int32} {la : Nat → Int64} {B : Nat} {t0 : Int32} {f0 l0 g0 : Nat} {fu fn fx fi : Nat → Int32} {fl : Nat → Int64} (hC : cls D G A pm cnt fd tt xt li la) (hM : mdl D G o q B t0 f0 l0 g0 fu fn fx fi fl) (hU : G ou = some (kL D 1 P)) (hap : ∀ k i, inA k i → ¬ mown o q (A k i)) (hmu : ¬ mown o q ou) (hT : tie pm cnt fd tt xt li la t0 f0 l0 fu fn fx fi fl) (hB6 : B ≤ 600) {y4 : Int32} {j9 c0 s0 : Nat} (hy : y4 = nI j9) (h9 : j9 + 9 ≤ L) (hc0 : c0 ≤ 1000) (hs0 : s0 ≤ 80000) (kk : lwK p l e s m below meth c b D A o q ou y4 c0 s0 B) (hI : gw_I D s.heap G s.heap H locs) (ls : Array Slot) (hl : lv_has ls 8 [(4, .int y4), (3, .ref ou), (2, .ref o), (1, .ref (A 0 0)), (0, .ref b)]) : W p l e room_1 s m #[Value.ref b] below meth c H locs c0 s0 (lw_Z below #[Value.ref b] s) (F0 m 840 ls []) := by
  obtain ⟨hx, hb, hr, hml, hown, hts, hX, hbl, hlocks, hgv⟩ := id C0
  have M : CallFix p m c b_La_law 8 s #[Value.ref b] tb R_La := ⟨hx, hb, hml, hown, fun w h => hts w (tb_in h)⟩
  have hbA : ¬ gw_A s.heap b := Nat.not_le.mpr hbl
  refine lv_aload_n hx hb d_La_law_840 rfl (lv_at hl 3 rfl) ?_
  refine lv_aload_n hx hb d_La_law_841 rfl (lv_at hl 4 rfl) ?_
  refine lv_iload hx hb d_La_law_842 (lv_at hl 0 rfl) ?_
  refine lv_iconst (v := 1) hx hb d_La_law_844 (by decide) ?_
  refine lv_iadd hx hb d_La_law_845 ?_
  refine va_sld hx hb hX hbl hbA hI.2 (nb_in (nb_add hy 1) (by omega) (by omega)) d_La_law_846 ?_
  refine lv_aload_n hx hb d_La_law_847 rfl (lv_at hl 4 rfl) ?_
  refine lv_iload hx hb d_La_law_848 (lv_at hl 0 rfl) ?_
  refine lv_iconst (v := 2) hx hb d_La_law_850 (by decide) ?_
  refine lv_iadd hx hb d_La_law_851 ?_
  refine va_sld hx hb hX hbl hbA hI.2 (nb_in (nb_add hy 2) (by omega) (by omega)) d_La_law_852 ?_
  refine lv_aload_n hx hb d_La_law_853 rfl (lv_at hl 1 rfl) ?_
  have hIs := hI
  refine gw_Wi (As := [.ref (A 0 0), .int (xs (y4 + (1 : Int32)).toNatClampNeg), .int (xs (y4 + (2 : Int32)).toNatClampNeg), .ref ou]) (rest := []) M hK hI (c_La_given l htr A pm cnt fd tt xt li la hC (xs (y4 + (1 : Int32)).toNatClampNeg) (xs (y4 + (2 : Int32)).toNatClampNeg) ou P hU) k_La_given m_La_133 rfl hl.1 rfl (Nat.le_of_ble_eq_true rfl) ⟨rfl, rfl, ⟨Nat.le_of_ble_eq_true rfl, Nat.le_of_ble_eq_true rfl⟩, ⟨(by show _ ≤ 601024; omega), (by show _ ≤ 7293034; omega)⟩⟩ d_La_law_854 (fun x1 G2 H locs hw hI => ?_)
  obtain ⟨pm1, cnt1, fd1, tt1, xt1, li1, la1, P1, hC1, hU1, hfr1, hev⟩ := hw
  have hM := hM.fr hfr1 (apU hap hmu)
  have hU := hU1
  have hC := hC1
  obtain ⟨P, hP⟩ : ∃ z, z = P1 := ⟨_, rfl⟩
  rw [← hP] at hU
  refine lv_istore (lv' := [(5, .int x1), (4, .int y4), (3, .ref ou), (2, .ref o), (1, .ref (A 0 0)), (0, .ref b)]) hx hb d_La_law_857 hl (by decide) rfl (fun ls hl => ?_)
  refine lv_aload_n hx hb d_La_law_859 rfl (lv_at hl 3 rfl) ?_
  refine lv_aload_n hx hb d_La_law_860 rfl (lv_at hl 5 rfl) ?_
  refine lv_iload hx hb d_La_law_861 (lv_at hl 1 rfl) ?_
  refine lv_iconst (v := 1) hx hb d_La_law_863 (by decide) ?_
  refine lv_iadd hx hb d_La_law_864 ?_
  refine va_sld hx hb hX hbl hbA hI.2 (nb_in (nb_add hy 1) (by omega) (by omega)) d_La_law_865 ?_
  refine lv_aload_n hx hb d_La_law_866 rfl (lv_at hl 5 rfl) ?_
  refine lv_iload hx hb d_La_law_867 (lv_at hl 1 rfl) ?_
  refine lv_iconst (v := 2) hx hb d_La_law_869 (by decide) ?_
  refine lv_iadd hx hb d_La_law_870 ?_
  refine va_sld hx hb hX hbl hbA hI.2 (nb_in (nb_add hy 2) (by omega) (by omega)) d_La_law_871 ?_
  obtain ⟨s1, hfi⟩ := isFi.ex fu fn (xs (y4 + (1 : Int32)).toNatClampNeg)
  by_cases hs1 : s1 < 16
  · have hIs := hI
    refine gw_Vl (As := [.int (xs (y4 + (1 : Int32)).toNatClampNeg), .int (xs (y4 + (2 : Int32)).toNatClampNeg)]) (rest := []) M hK hI (c_Mo_givenf l o q B t0 f0 l0 g0 fu fn fx fi fl hM (xs (y4 + (1 : Int32)).toNatClampNeg) s1 hfi hs1 (xs (y4 + (2 : Int32)).toNatClampNeg) hB6) k_Mo_given m_La_135 hM.O (ci := 6) rfl (fun x hx => ⟨_, hx⟩) rfl hl.1 rfl (Nat.le_of_ble_eq_true rfl) ⟨rfl, rfl, ⟨Nat.le_of_ble_eq_true rfl, Nat.le_of_ble_eq_true rfl⟩, ⟨(by show _ ≤ 601024; omega), (by show _ ≤ 7293034; omega)⟩⟩ d_La_law_872 (fun x3 G4 H locs hw hI => ?_)
    obtain ⟨hw, hf1⟩ := hw
    rcases hw with ⟨hbm, hM1⟩ | ⟨hbm, hM1⟩
    · have hC := hC.fr hf1 hap
      have hU := hf1 _ _ hU hmu
      have hM := hM1
      refine lv_lstore (lv' := [(6, .long x3), (5, .int x1), (4, .int y4), (3, .ref ou), (2, .ref o), (1, .ref (A 0 0)), (0, .ref b)]) hx hb d_La_law_875 hl (by decide) rfl (fun ls hl => ?_)
      refine lv_goto (tgt := 905) hx hb d_La_law_877 (by decide) ?_
      exact kk _ _ _ _ pm1 cnt1 fd1 tt1 xt1 li1 la1 B 2 f0 l0 g0 fu fn fx fi fl P (Nat.le_succ _) hC hM hU (hev.2.2.1.trans hT) hI (lv_sub hl [2, 3, 4, 5, 6] rfl)
    · have hC := hC.fr hf1 hap
      have hU := hf1 _ _ hU hmu
      have hM := hM1
      refine lv_lstore (lv' := [(6, .long x3), (5, .int x1), (4, .int y4), (3, .ref ou), (2, .ref o), (1, .ref (A 0 0)), (0, .ref b)]) hx hb d_La_law_875 hl (by decide) rfl (fun ls hl => ?_)
      refine lv_goto (tgt := 905) hx hb d_La_law_877 (by decide) ?_
      exact kk _ _ _ _ pm1 cnt1 fd1 tt1 xt1 li1 la1 B 0 f0 l0 g0 fu fn fx fi fl P (Nat.le_succ _) hC hM hU (hev.2.2.1.trans hT) hI (lv_sub hl [2, 3, 4, 5, 6] rfl)
  · have hfi := hfi.none hs1
    have hIs := hI
    refine gw_Vl (As := [.int (xs (y4 + (1 : Int32)).toNatClampNeg), .int (xs (y4 + (2 : Int32)).toNatClampNeg)]) (rest := []) M hK hI (c_Mo_givenn l o q B t0 f0 l0 g0 fu fn fx fi fl hM (xs (y4 + (1 : Int32)).toNatClampNeg) hfi (xs (y4 + (2 : Int32)).toNatClampNeg)) k_Mo_given m_La_135 hM.O (ci := 6) rfl (fun x hx => ⟨_, hx⟩) rfl hl.1 rfl (Nat.le_of_ble_eq_true rfl) ⟨rfl, rfl, ⟨Nat.le_of_ble_eq_true rfl, Nat.le_of_ble_eq_true rfl⟩, ⟨(by show _ ≤ 601024; omega), (by show _ ≤ 7293034; omega)⟩⟩ d_La_law_872 (fun x5 G6 H locs hw hI => ?_)
    obtain ⟨hM1, hf1⟩ := hw
    have hC := hC.fr hf1 hap
    have hU := hf1 _ _ hU hmu
    have hM := hM1
    refine lv_lstore (lv' := [(6, .long x5), (5, .int x1), (4, .int y4), (3, .ref ou), (2, .ref o), (1, .ref (A 0 0)), (0, .ref b)]) hx hb d_La_law_875 hl (by decide) rfl (fun ls hl => ?_)
    refine lv_goto (tgt := 905) hx hb d_La_law_877 (by decide) ?_
    exact kk _ _ _ _ pm1 cnt1 fd1 tt1 xt1 li1 la1 B 1 f0 l0 g0 fu fn fx fi fl P (Nat.le_succ _) hC hM hU (hev.2.2.1.trans hT) hI (lv_sub hl [2, 3, 4, 5, 6] rfl)

set_option maxHeartbeats 4000000 in
set_option maxRecDepth 100000 in
theorem law_18 {p : Program} {l : Launch} {e : Env} {s : State} {m : MethodId} {below : List Frame} {meth : Method} {c : Code} {b L : Nat} {xs : Nat → Int32} (C0 : lw_At p s m meth c b L xs) (htr : l.stackTraces = false) {D : gw_D} (hK : gw_K D s.heap s) (hL : L ≤ 4608) {G : gw_G} {H : Heap} {locs : List Loc} {A : Nat → Nat → Nat} {o ou : Nat} {q : Nat → Nat} {P : Int64 → Prop} {pm : Nat → Nat} {cnt fd : Nat} {tt xt li : Nat → Int32} {la : Nat → Int64} {B : Nat} {t0 : Int32} {f0 l0 g0 : Nat} {fu fn fx fi : Nat → Int32} {fl : Nat → Int64} (hC : cls D G A pm cnt fd tt xt li la) (hM : mdl D G o q B t0 f0 l0 g0 fu fn fx fi fl) (hU : G ou = some (kL D 1 P)) (hap : ∀ k i, inA k i → ¬ mown o q (A k i)) (hmu : ¬ mown o q ou) (hT : tie pm cnt fd tt xt li la t0 f0 l0 fu fn fx fi fl) (hB6 : B ≤ 600) {y4 : Int32} {j9 c0 s0 : Nat} (hy : y4 = nI j9) (h9 : j9 + 9 ≤ L) (hc0 : c0 ≤ 1000) (hs0 : s0 ≤ 80000) (kk : lwK p l e s m below meth c b D A o q ou y4 c0 s0 B) (hI : gw_I D s.heap G s.heap H locs) (ls : Array Slot) (hl : lv_has ls 8 [(4, .int y4), (3, .ref ou), (2, .ref o), (1, .ref (A 0 0)), (0, .ref b)]) : W p l e room_1 s m #[Value.ref b] below meth c H locs c0 s0 (lw_Z below #[Value.ref b] s) (F0 m 880 ls []) := by
  obtain ⟨hx, hb, hr, hml, hown, hts, hX, hbl, hlocks, hgv⟩ := id C0
  have M : CallFix p m c b_La_law 8 s #[Value.ref b] tb R_La := ⟨hx, hb, hml, hown, fun w h => hts w (tb_in h)⟩
  have hbA : ¬ gw_A s.heap b := Nat.not_le.mpr hbl
  refine lv_aload_n hx hb d_La_law_880 rfl (lv_at hl 3 rfl) ?_
  refine lv_aload_n hx hb d_La_law_881 rfl (lv_at hl 4 rfl) ?_
  refine lv_iload hx hb d_La_law_882 (lv_at hl 0 rfl) ?_
  refine lv_iconst (v := 1) hx hb d_La_law_884 (by decide) ?_
  refine lv_iadd hx hb d_La_law_885 ?_
  refine va_sld hx hb hX hbl hbA hI.2 (nb_in (nb_add hy 1) (by omega) (by omega)) d_La_law_886 ?_
  have hIs := hI
  refine gw_Vi (As := [.int (xs (y4 + (1 : Int32)).toNatClampNeg)]) (rest := []) M hK hI (c_Gp_name l A pm cnt fd tt xt li la hC (xs (y4 + (1 : Int32)).toNatClampNeg)) k_Gp_name m_La_136 hC.O (ci := 5) rfl (fun x hx => ⟨_, hx⟩) rfl hl.1 rfl (Nat.le_of_ble_eq_true rfl) ⟨rfl, rfl, ⟨Nat.le_of_ble_eq_true rfl, Nat.le_of_ble_eq_true rfl⟩, ⟨(by show _ ≤ 601024; omega), (by show _ ≤ 7293034; omega)⟩⟩ d_La_law_887 (fun x1 G2 H locs hw hI => ?_)
  obtain ⟨hn1, hn2, hw⟩ := hw
  rw [hw] at hI
  refine lv_pop hx hb d_La_law_890 rfl ?_
  refine lv_aload_n hx hb d_La_law_891 rfl (lv_at hl 2 rfl) ?_
  refine lv_aload_n hx hb d_La_law_892 rfl (lv_at hl 4 rfl) ?_
  refine lv_iload hx hb d_La_law_893 (lv_at hl 0 rfl) ?_
  refine lv_iconst (v := 1) hx hb d_La_law_895 (by decide) ?_
  refine lv_iadd hx hb d_La_law_896 ?_
  refine va_sld hx hb hX hbl hbA hI.2 (nb_in (nb_add hy 1) (by omega) (by omega)) d_La_law_897 ?_
  have hIs := hI
  refine gw_Vi (As := [.int (xs (y4 + (1 : Int32)).toNatClampNeg)]) (rest := []) M hK hI (c_Mo_name l o q B t0 f0 l0 g0 fu fn fx fi fl hM (xs (y4 + (1 : Int32)).toNatClampNeg)) k_Mo_name m_La_139 hM.O (ci := 6) rfl (fun x hx => ⟨_, hx⟩) rfl hl.1 rfl (Nat.le_of_ble_eq_true rfl) ⟨rfl, rfl, ⟨Nat.le_of_ble_eq_true rfl, Nat.le_of_ble_eq_true rfl⟩, ⟨(by show _ ≤ 601024; omega), (by show _ ≤ 7293034; omega)⟩⟩ d_La_law_898 (fun x3 G4 H locs hw hI => ?_)
  obtain ⟨hM1, hf1⟩ := hw
  have hC := hC.fr hf1 hap
  have hU := hf1 _ _ hU hmu
  have hM := hM1
  refine lv_pop hx hb d_La_law_901 rfl ?_
  refine lv_goto (tgt := 905) hx hb d_La_law_902 (by decide) ?_
  refine W.widen (k := c0 + 1) (n := s0 + 6) (Nat.le_add_right _ _) (Nat.le_add_right _ _) ?_
  exact kk _ _ _ _ pm cnt fd tt xt li la B 0 f0 l0 g0 fu fn fx fi fl P (Nat.le_succ _) hC hM hU hT hI (lv_sub hl [0, 1, 2, 3, 4] rfl)
