theorem z_31b {k n : Nat} (h : k < n) (hn : n < 2 ^ 31 := by decide) : k < 2 ^ 31 := Nat.lt_trans h hn
theorem z_j {j k : Nat} (h : j < k + 1) (h9 : ¬ j = k) : j < k := by omega
theorem z_w (c d k a b : Nat) (h : a + b ≤ d) : c + d * k + a + b ≤ c + d * (k + 1) := by rw [Nat.mul_succ]; omega
theorem z_c1 {k : Nat} (h : k < 16) : 11 + 5 * k + 1 ≤ 107 := by omega
theorem z_c1b {k : Nat} (h : k < 16) : 11 + 5 * k + 1 + 4 ≤ 107 := by omega
theorem z_s1 {k : Nat} (h : k < 16) : 4038 + 94 * k + 12 ≤ 13566 := by omega
theorem z_s1b {k : Nat} (h : k < 16) : 4038 + 94 * k + 12 + 82 ≤ 13566 := by omega
theorem z_c2 {k : Nat} (h : k < 8) : 91 + 2 * k + 1 ≤ 107 := by omega
theorem z_c2b {k : Nat} (h : k < 8) : 91 + 2 * k + 1 + 1 ≤ 107 := by omega
theorem z_s2 {k : Nat} (h : k < 8) : 5542 + 1003 * k + 3 ≤ 13566 := by omega
theorem z_s2b {k : Nat} (h : k < 8) : 5542 + 1003 * k + 3 + 1000 ≤ 13566 := by omega
theorem fr_arr {D : gw_D} {G G1 : gw_G} {b arr t n k : Nat} {as : Nat → Nat} {K : va_E → Prop} {x : va_E} (h : G b = some K) (hf : gw_fr (fun q => q = arr) G G1) (ha : G arr = some (kRk D t n k as)) (hx : K x) (hn : ∀ f, ¬ x = .inl (D.2 t, n, .inr (.inr (.inr (.inr f))))) : G1 b = some K := hf _ _ h (gw_ne h ha hx (fun q => by obtain ⟨f, -, q⟩ := q; exact hn f q))
/-- a row of room n; an association, as they are made -/
def isRv (D : gw_D) (G : gw_G) (n b : Nat) : Prop := ∃ q, G b = some (kRo q n) ∧ G q = some (kA D 1 n tT)
def isAv (D : gw_D) (G : gw_G) (b : Nat) : Prop := ∃ ci wo wi bi, G b = some (kAp ci wi 0 0 0 0) ∧ G ci = some (kCi wo) ∧ G wo = some (kA D 0 44 tT) ∧ G wi = some (kWj bi) ∧ G bi = some (kA D 0 32 tT)
theorem isRv.mono {D : gw_D} {G G1 : gw_G} {r b arr t n k : Nat} {as : Nat → Nat} (h : isRv D G r b) (hf : gw_fr (fun q => q = arr) G G1) (ha : G arr = some (kRk D t n k as)) : isRv D G1 r b := by
  obtain ⟨q, h1, h2⟩ := h
  exact ⟨q, fr_arr (x := .inr (3, [.ref q, .int (nI 0), .int 0])) h1 hf ha ⟨_, 0, ⟨0, Nat.zero_le _, rfl⟩, Or.inl rfl, rfl⟩ (fun f q => by cases q), fr_arr (x := .inl (D.2 1, r, .inl (fun _ => 0))) h2 hf ha ⟨_, fun _ _ => trivial, rfl⟩ (fun f q => by have h9 := congrArg (fun z => z.2.2) (Sum.inl.inj q); cases h9)⟩
theorem isAv.mono {D : gw_D} {G G1 : gw_G} {b arr t n k : Nat} {as : Nat → Nat} (h : isAv D G b) (hf : gw_fr (fun q => q = arr) G G1) (ha : G arr = some (kRk D t n k as)) : isAv D G1 b := by
  obtain ⟨ci, wo, wi, bi, h1, h2, h3, h4, h5⟩ := h
  refine ⟨ci, wo, wi, bi, fr_arr (x := .inr (0, [.ref ci, .ref wi, .int 0, .int 0, .int 0, .long 0, .long 0, .long 0, .int 0, .long 0, .long 0, .long 0])) h1 hf ha ⟨0, 0, 0, 0, 0, 0, rfl⟩ (fun f q => by cases q), fr_arr (x := .inr (2, [.ref wo, .long 0, .long 0])) h2 hf ha ⟨0, 0, rfl⟩ (fun f q => by cases q), ?_, fr_arr (x := .inr (4, [.ref bi, .int 1024, .long 0])) h4 hf ha ⟨1024, 0, ⟨by decide, by decide⟩, by decide, rfl⟩ (fun f q => by cases q), ?_⟩
  · exact fr_arr (x := .inl (D.2 0, 44, .inl (fun _ => 0))) h3 hf ha ⟨_, fun _ _ => trivial, rfl⟩ (fun f q => by have h9 := congrArg (fun z => z.2.2) (Sum.inl.inj q); cases h9)
  · exact fr_arr (x := .inl (D.2 0, 32, .inl (fun _ => 0))) h5 hf ha ⟨_, fun _ _ => trivial, rfl⟩ (fun f q => by have h9 := congrArg (fun z => z.2.2) (Sum.inl.inj q); cases h9)
theorem inj_up {as : Nat → Nat} {k q : Nat} (h : ∀ i j, i < k → j < k → as i = as j → i = j) (hq : ∀ j, j < k → as j ≠ q) : ∀ i j, i < k + 1 → j < k + 1 → va_up as k q i = va_up as k q j → i = j := by
  intro i j hi hj e
  by_cases e1 : i = k <;> by_cases e2 : j = k
  · rw [e1, e2]
  · simp only [va_up, e1, e2, if_true, if_false] at e; exact absurd e.symm (hq j (by omega))
  · simp only [va_up, e1, e2, if_true, if_false] at e; exact absurd e (hq i (by omega))
  · simp only [va_up, e1, e2, if_false] at e; exact h i j (by omega) (by omega) e
theorem isAv.ne {D : gw_D} {G : gw_G} {b q : Nat} (h : isAv D G b) (hq : G q = none) : b ≠ q := fun e => by
  obtain ⟨ci, wo, wi, bi, h1, -⟩ := h
  rw [e, hq] at h1; cases h1
theorem isAv.all {D : gw_D} {G : gw_G} {as : Nat → Nat} (h : ∀ j, j < 16 → isAv D G (as j)) : ∃ F : Nat → Nat × Nat × Nat × Nat, ∀ j, j < 16 → G (as j) = some (kAp (F j).1 (F j).2.2.1 0 0 0 0) ∧ G (F j).1 = some (kCi (F j).2.1) ∧ G (F j).2.1 = some (kA D 0 44 tT) ∧ G (F j).2.2.1 = some (kWj (F j).2.2.2) ∧ G (F j).2.2.2 = some (kA D 0 32 tT) := by
  have h1 : ∀ j, ∃ r : Nat × Nat × Nat × Nat, j < 16 → G (as j) = some (kAp r.1 r.2.2.1 0 0 0 0) ∧ G r.1 = some (kCi r.2.1) ∧ G r.2.1 = some (kA D 0 44 tT) ∧ G r.2.2.1 = some (kWj r.2.2.2) ∧ G r.2.2.2 = some (kA D 0 32 tT) := fun j => by
    by_cases hj : j < 16
    · obtain ⟨ci, wo, wi, bi, h2⟩ := h j hj
      exact ⟨(ci, wo, wi, bi), fun _ => h2⟩
    · exact ⟨(0, 0, 0, 0), fun q => absurd q hj⟩
  exact Classical.axiomOfChoice h1
theorem isRv.all {D : gw_D} {G : gw_G} {ro : Nat → Nat} (h : ∀ j, j < 8 → isRv D G 236 (ro j)) : ∃ F : Nat → Nat, ∀ j, j < 8 → G (ro j) = some (kRo (F j) 236) ∧ G (F j) = some (kA D 1 236 tT) := by
  have h1 : ∀ j, ∃ r : Nat, j < 8 → G (ro j) = some (kRo r 236) ∧ G r = some (kA D 1 236 tT) := fun j => by
    by_cases hj : j < 8
    · obtain ⟨q, h2⟩ := h j hj
      exact ⟨q, fun _ => h2⟩
    · exact ⟨0, fun q => absurd q hj⟩
  exact Classical.axiomOfChoice h1
def mkA (L : List Nat) (as : Nat → Nat) (F : Nat → Nat × Nat × Nat × Nat) (ro rb : Nat → Nat) : Nat → Nat → Nat := fun k i => match k with
  | 12 => as i
  | 13 => (F i).1
  | 14 => (F i).2.1
  | 15 => (F i).2.2.1
  | 16 => (F i).2.2.2
  | 17 => ro i
  | 18 => rb i
  | k => L.getD k 0
theorem gp_cls {D : gw_D} {G : gw_G} {a arr fed sent places plain gained check fb sb pb gb : Nat} {as ro : Nat → Nat} (hO : G a = some (kx (.inr (5, [.ref arr, .int 0, .ref fed, .ref sent, .ref places, .ref plain, .ref gained, .ref check])))) (hArr : G arr = some (kR D 4 16 (fun j b => b = as j))) (hPl : G places = some (kR D 5 8 (fun j b => b = ro j))) (hFed : G fed = some (kx (.inr (3, [.ref fb, .int 0, .int 0])))) (hFb : G fb = some (kA D 1 200 tT)) (hS : G sent = some (kRo sb 236)) (hSb : G sb = some (kA D 1 236 tT)) (hP : G plain = some (kRo pb 204)) (hPb : G pb = some (kA D 1 204 tT)) (hGa : G gained = some (kRo gb 204)) (hGb : G gb = some (kA D 1 204 tT)) (hC : G check = some kCh) (hAs : ∀ j, j < 16 → isAv D G (as j)) (hRo : ∀ j, j < 8 → isRv D G 236 (ro j)) (hinj : ∀ i j, i < 16 → j < 16 → as i = as j → i = j) (n1 : fed ≠ sent) (n2 : fed ≠ plain) (n3 : fed ≠ gained) (hNe : ∀ j, j < 8 → ro j ≠ fed) : ∃ A, A 0 0 = a ∧ cls D G A (fun j => j) 0 0 (fun _ => 0) (fun _ => 0) (fun _ => 0) (fun _ => 0) := by
  obtain ⟨F, hF⟩ := isAv.all hAs
  obtain ⟨rb, hrb⟩ := isRv.all hRo
  exact ⟨mkA [a, arr, fed, sent, places, plain, gained, check, fb, sb, pb, gb] as F ro rb, rfl, ⟨hO, hArr, hFed⟩, hF, ⟨⟨hPl, hS, hSb, hP, hPb, hGa, hGb, hC, hFb⟩, hrb⟩, ⟨hinj, n1, n2, n3, hNe⟩, Nat.zero_le _, Nat.zero_le _, fun j h => h, fun i j _ _ h => h, fun i _ => Or.inl rfl⟩

abbrev rm_Gp_init : Room := { frames := 3, cells := 107, slots := 13566, locals := 60 }
set_option maxHeartbeats 4000000 in
set_option maxRecDepth 100000 in
theorem c_Gp_init (l : Launch) {D : gw_D} {Hs : Heap} {G : gw_G} (a : Nat) (hR : G a = some (kx (.inr (5, [.null, .int 0, .null, .null, .null, .null, .null, .null])))) : Met l y_Gp_init (Cond.code y_Gp_init b_Gp_init 2 none :: tb) rm_Gp_init (gw_Pc D Hs G [.ref a]) (gw_Qv D Hs (fun G1 => (∃ A, A 0 0 = a ∧ cls D G1 A (fun j => j) 0 0 (fun _ => 0) (fun _ => 0) (fun _ => 0) (fun _ => 0)) ∧ gw_fr (fun b => b = a) G G1)) 107 13566 (gw_A Hs) := by
  refine gw_met (by decide) (Nat.le_of_ble_eq_true rfl) ?_
  intro p e s m args below meth c M hK hr hlo hin hI ls hl
  have hx := M.1
  have hb := M.2.1
  have hl : lv_has ls 2 [(0, .ref a)] := hl
  have hf0 : gw_fr (fun b => b = a) G G := gw_fr.rf
  refine lv_aload_n hx hb d_Gp_init_0 rfl (lv_at hl 0 rfl) ?_
  refine W.objInit hx hb M.2.2.2.1 (M.2.2.2.2 _ m_Gp_1) (M.2.2.2.2 _ oi_1) (M.2.2.2.2 _ oi_2) rfl (by rw [M.2.2.1]; exact hl.1) rfl d_Gp_init_1 (Nat.le_of_ble_eq_true rfl) (Nat.le_of_ble_eq_true rfl) ?_
  refine W.eq (g2 := F0 m 4 ls []) rfl ?_
  refine lv_aload_n hx hb d_Gp_init_4 rfl (lv_at hl 0 rfl) ?_
  refine lv_bipush (v := 16) hx hb d_Gp_init_5 (by decide) ?_
  refine gw_newq M hK hI q_Gp_9 hK.2.1 4 rfl (N' := 16) (by decide) rfl (Nat.le_of_ble_eq_true rfl) (Nat.le_of_ble_eq_true rfl) (Nat.le_of_ble_eq_true rfl) (kRk D 4 16 0 (fun _ => 0)) (⟨_, fun _ h => absurd h (Nat.not_lt_zero _), rfl⟩) d_Gp_init_7 (fun q1 H hz2 hI => ?_)
  generalize hE_G3 : gw_up G q1 (kRk D 4 16 0 (fun _ => 0)) = G3 at hI
  have hG4 : G3 q1 = some (kRk D 4 16 0 (fun _ => 0)) := by rw [← hE_G3]; exact gw_up_s
  have hn6 : a ≠ q1 := fun q9 => by have h9 := hR; rw [q9, hz2] at h9; cases h9
  have hG5 : G3 a = some (kx (.inr (5, [.null, .int 0, .null, .null, .null, .null, .null, .null]))) := by rw [← hE_G3, gw_up_n hn6]; exact hR
  have hy7 : G q1 = none := by
    cases h9 : G q1 with
    | none => rfl
    | some K9 => exact absurd (hf0 q1 K9 h9 (fun e9 => hn6 e9.symm)) (by rw [hz2]; exact fun h => by cases h)
  have hf8 : gw_fr (fun b => b = a) G G3 := gw_fr.tr hf0 (by rw [← hE_G3]; exact gw_fr.new hz2)
  refine gw_putF M hK hI hG5 i_Gp t_Gp tk_Gp n_Gp rfl 0 (by decide) f_Gp_11 rfl hin rfl rfl (kx (.inr (5, [.ref q1, .int 0, .null, .null, .null, .null, .null, .null]))) (fun x hx => ⟨_, hx, Nat.le_of_ble_eq_true rfl, rfl⟩) d_Gp_init_10 (fun H locs hI => ?_)
  generalize hE_G9 : gw_up G3 a (kx (.inr (5, [.ref q1, .int 0, .null, .null, .null, .null, .null, .null]))) = G9 at hI
  have hG10 : G9 a = some (kx (.inr (5, [.ref q1, .int 0, .null, .null, .null, .null, .null, .null]))) := by rw [← hE_G9]; exact gw_up_s
  have hG11 : G9 q1 = some (kRk D 4 16 0 (fun _ => 0)) := by rw [← hE_G9, gw_up_n hn6.symm]; exact hG4
  have hf12 : gw_fr (fun b => b = a) G G9 := gw_fr.tr hf8 (by rw [← hE_G9]; exact gw_fr.up rfl)
  refine lv_aload_n hx hb d_Gp_init_13 rfl (lv_at hl 0 rfl) ?_
  refine lv_iconst (v := 0) hx hb d_Gp_init_14 (by decide) ?_
  refine gw_put M hK hI hG10 i_Gp t_Gp tk_Gp n_Gp rfl 1 (by decide) f_Gp_15 rfl rfl rfl (kx (.inr (5, [.ref q1, .int 0, .null, .null, .null, .null, .null, .null]))) (fun x hx => ⟨_, hx, Nat.le_of_ble_eq_true rfl, rfl⟩) d_Gp_init_15 (fun H locs hI => ?_)
  generalize hE_G13 : gw_up G9 a (kx (.inr (5, [.ref q1, .int 0, .null, .null, .null, .null, .null, .null]))) = G13 at hI
  have hG14 : G13 a = some (kx (.inr (5, [.ref q1, .int 0, .null, .null, .null, .null, .null, .null]))) := by rw [← hE_G13]; exact gw_up_s
  have hG15 : G13 q1 = some (kRk D 4 16 0 (fun _ => 0)) := by rw [← hE_G13, gw_up_n hn6.symm]; exact hG11
  have hf16 : gw_fr (fun b => b = a) G G13 := gw_fr.tr hf12 (by rw [← hE_G13]; exact gw_fr.up rfl)
  refine lv_aload_n hx hb d_Gp_init_18 rfl (lv_at hl 0 rfl) ?_
  refine gw_new M hK hI (ci := 3) (fs := [.null, .int 0, .int 0]) i_Ro t_Ro tk_Ro q_Gp_19 j_Ro z_Ro rfl (fun j hj => by rcases (show j = 0 ∨ j = 1 ∨ j = 2 by omega) with rfl | rfl | rfl <;> rfl) (Nat.le_of_ble_eq_true rfl) (Nat.le_of_ble_eq_true rfl) d_Gp_init_19 (fun q17 H hz18 hI => ?_)
  generalize hE_G19 : gw_up G13 q17 (kx (.inr (3, [.null, .int 0, .int 0]))) = G19 at hI
  have hG20 : G19 q17 = some (kx (.inr (3, [.null, .int 0, .int 0]))) := by rw [← hE_G19]; exact gw_up_s
  have hn22 : a ≠ q17 := fun q9 => by have h9 := hG14; rw [q9, hz18] at h9; cases h9
  have hG21 : G19 a = some (kx (.inr (5, [.ref q1, .int 0, .null, .null, .null, .null, .null, .null]))) := by rw [← hE_G19, gw_up_n hn22]; exact hG14
  have hn24 : q1 ≠ q17 := fun q9 => by have h9 := hG15; rw [q9, hz18] at h9; cases h9
  have hG23 : G19 q1 = some (kRk D 4 16 0 (fun _ => 0)) := by rw [← hE_G19, gw_up_n hn24]; exact hG15
  have hy25 : G q17 = none := by
    cases h9 : G q17 with
    | none => rfl
    | some K9 => exact absurd (hf16 q17 K9 h9 (fun e9 => hn22 e9.symm)) (by rw [hz18]; exact fun h => by cases h)
  have hf26 : gw_fr (fun b => b = a) G G19 := gw_fr.tr hf16 (by rw [← hE_G19]; exact gw_fr.new hz18)
  refine lv_dup hx hb d_Gp_init_22 rfl ?_
  refine lv_sipush (v := 200) hx hb d_Gp_init_23 (by decide) ?_
  refine gw_Iv (As := [.int 200]) (rest := [.ref q17, .ref a]) M hK hI (c_Ro_init l q17 200 (by decide) hG20) k_Ro_init m_Gp_21 rfl hl.1 rfl (Nat.le_of_ble_eq_true rfl) ⟨rfl, rfl, ⟨Nat.le_of_ble_eq_true rfl, Nat.le_of_ble_eq_true rfl⟩, ⟨Nat.le_of_ble_eq_true rfl, Nat.le_of_ble_eq_true rfl⟩⟩ d_Gp_init_26 (fun G32 H locs hw hI => ?_)
  obtain ⟨q27, hz28, hG29, hG30, hfc31⟩ := hw
  have hn33 : a ≠ q27 := fun q9 => by have h9 := hG21; rw [q9, hz28] at h9; cases h9
  have hn34 : q1 ≠ q27 := fun q9 => by have h9 := hG23; rw [q9, hz28] at h9; cases h9
  have hn35 : q17 ≠ q27 := fun q9 => by have h9 := hG20; rw [q9, hz28] at h9; cases h9
  have hG36 : G32 a = some (kx (.inr (5, [.ref q1, .int 0, .null, .null, .null, .null, .null, .null]))) := hfc31 a _ hG21 hn22
  have hG37 : G32 q1 = some (kRk D 4 16 0 (fun _ => 0)) := hfc31 q1 _ hG23 hn24
  have hy38 : G q27 = none := by
    cases h9 : G q27 with
    | none => rfl
    | some K9 => exact absurd (hf26 q27 K9 h9 (fun e9 => hn33 e9.symm)) (by rw [hz28]; exact fun h => by cases h)
  have hf39 : gw_fr (fun b => b = a) G G32 := gw_fr.fresh hf26 hy25 hfc31
  refine gw_putF M hK hI hG36 i_Gp t_Gp tk_Gp n_Gp rfl 2 (by decide) f_Gp_24 rfl hin rfl rfl (kx (.inr (5, [.ref q1, .int 0, .ref q17, .null, .null, .null, .null, .null]))) (fun x hx => ⟨_, hx, Nat.le_of_ble_eq_true rfl, rfl⟩) d_Gp_init_29 (fun H locs hI => ?_)
  generalize hE_G40 : gw_up G32 a (kx (.inr (5, [.ref q1, .int 0, .ref q17, .null, .null, .null, .null, .null]))) = G40 at hI
  have hG41 : G40 a = some (kx (.inr (5, [.ref q1, .int 0, .ref q17, .null, .null, .null, .null, .null]))) := by rw [← hE_G40]; exact gw_up_s
  have hG42 : G40 q1 = some (kRk D 4 16 0 (fun _ => 0)) := by rw [← hE_G40, gw_up_n hn6.symm]; exact hG37
  have hG43 : G40 q17 = some (kx (.inr (3, [.ref q27, .int 0, .int 0]))) := by rw [← hE_G40, gw_up_n hn22.symm]; exact hG29
  have hG44 : G40 q27 = some (kA D 1 200 tT) := by rw [← hE_G40, gw_up_n hn33.symm]; exact hG30
  have hf45 : gw_fr (fun b => b = a) G G40 := gw_fr.tr hf39 (by rw [← hE_G40]; exact gw_fr.up rfl)
  refine lv_aload_n hx hb d_Gp_init_32 rfl (lv_at hl 0 rfl) ?_
  refine gw_new M hK hI (ci := 3) (fs := [.null, .int 0, .int 0]) i_Ro t_Ro tk_Ro q_Gp_19 j_Ro z_Ro rfl (fun j hj => by rcases (show j = 0 ∨ j = 1 ∨ j = 2 by omega) with rfl | rfl | rfl <;> rfl) (Nat.le_of_ble_eq_true rfl) (Nat.le_of_ble_eq_true rfl) d_Gp_init_33 (fun q46 H hz47 hI => ?_)
  generalize hE_G48 : gw_up G40 q46 (kx (.inr (3, [.null, .int 0, .int 0]))) = G48 at hI
  have hG49 : G48 q46 = some (kx (.inr (3, [.null, .int 0, .int 0]))) := by rw [← hE_G48]; exact gw_up_s
  have hn51 : a ≠ q46 := fun q9 => by have h9 := hG41; rw [q9, hz47] at h9; cases h9
  have hG50 : G48 a = some (kx (.inr (5, [.ref q1, .int 0, .ref q17, .null, .null, .null, .null, .null]))) := by rw [← hE_G48, gw_up_n hn51]; exact hG41
  have hn53 : q1 ≠ q46 := fun q9 => by have h9 := hG42; rw [q9, hz47] at h9; cases h9
  have hG52 : G48 q1 = some (kRk D 4 16 0 (fun _ => 0)) := by rw [← hE_G48, gw_up_n hn53]; exact hG42
  have hn55 : q17 ≠ q46 := fun q9 => by have h9 := hG43; rw [q9, hz47] at h9; cases h9
  have hG54 : G48 q17 = some (kx (.inr (3, [.ref q27, .int 0, .int 0]))) := by rw [← hE_G48, gw_up_n hn55]; exact hG43
  have hn57 : q27 ≠ q46 := fun q9 => by have h9 := hG44; rw [q9, hz47] at h9; cases h9
  have hG56 : G48 q27 = some (kA D 1 200 tT) := by rw [← hE_G48, gw_up_n hn57]; exact hG44
  have hy58 : G q46 = none := by
    cases h9 : G q46 with
    | none => rfl
    | some K9 => exact absurd (hf45 q46 K9 h9 (fun e9 => hn51 e9.symm)) (by rw [hz47]; exact fun h => by cases h)
  have hf59 : gw_fr (fun b => b = a) G G48 := gw_fr.tr hf45 (by rw [← hE_G48]; exact gw_fr.new hz47)
  refine lv_dup hx hb d_Gp_init_36 rfl ?_
  refine lv_sipush (v := 236) hx hb d_Gp_init_37 (by decide) ?_
  refine gw_Iv (As := [.int 236]) (rest := [.ref q46, .ref a]) M hK hI (c_Ro_init l q46 236 (by decide) hG49) k_Ro_init m_Gp_21 rfl hl.1 rfl (Nat.le_of_ble_eq_true rfl) ⟨rfl, rfl, ⟨Nat.le_of_ble_eq_true rfl, Nat.le_of_ble_eq_true rfl⟩, ⟨Nat.le_of_ble_eq_true rfl, Nat.le_of_ble_eq_true rfl⟩⟩ d_Gp_init_40 (fun G65 H locs hw hI => ?_)
  obtain ⟨q60, hz61, hG62, hG63, hfc64⟩ := hw
  have hn66 : a ≠ q60 := fun q9 => by have h9 := hG50; rw [q9, hz61] at h9; cases h9
  have hn67 : q1 ≠ q60 := fun q9 => by have h9 := hG52; rw [q9, hz61] at h9; cases h9
  have hn68 : q17 ≠ q60 := fun q9 => by have h9 := hG54; rw [q9, hz61] at h9; cases h9
  have hn69 : q27 ≠ q60 := fun q9 => by have h9 := hG56; rw [q9, hz61] at h9; cases h9
  have hn70 : q46 ≠ q60 := fun q9 => by have h9 := hG49; rw [q9, hz61] at h9; cases h9
  have hG71 : G65 a = some (kx (.inr (5, [.ref q1, .int 0, .ref q17, .null, .null, .null, .null, .null]))) := hfc64 a _ hG50 hn51
  have hG72 : G65 q1 = some (kRk D 4 16 0 (fun _ => 0)) := hfc64 q1 _ hG52 hn53
  have hG73 : G65 q17 = some (kx (.inr (3, [.ref q27, .int 0, .int 0]))) := hfc64 q17 _ hG54 hn55
  have hG74 : G65 q27 = some (kA D 1 200 tT) := hfc64 q27 _ hG56 hn57
  have hy75 : G q60 = none := by
    cases h9 : G q60 with
    | none => rfl
    | some K9 => exact absurd (hf59 q60 K9 h9 (fun e9 => hn66 e9.symm)) (by rw [hz61]; exact fun h => by cases h)
  have hf76 : gw_fr (fun b => b = a) G G65 := gw_fr.fresh hf59 hy58 hfc64
  refine gw_putF M hK hI hG71 i_Gp t_Gp tk_Gp n_Gp rfl 3 (by decide) f_Gp_28 rfl hin rfl rfl (kx (.inr (5, [.ref q1, .int 0, .ref q17, .ref q46, .null, .null, .null, .null]))) (fun x hx => ⟨_, hx, Nat.le_of_ble_eq_true rfl, rfl⟩) d_Gp_init_43 (fun H locs hI => ?_)
  generalize hE_G77 : gw_up G65 a (kx (.inr (5, [.ref q1, .int 0, .ref q17, .ref q46, .null, .null, .null, .null]))) = G77 at hI
  have hG78 : G77 a = some (kx (.inr (5, [.ref q1, .int 0, .ref q17, .ref q46, .null, .null, .null, .null]))) := by rw [← hE_G77]; exact gw_up_s
  have hG79 : G77 q1 = some (kRk D 4 16 0 (fun _ => 0)) := by rw [← hE_G77, gw_up_n hn6.symm]; exact hG72
  have hG80 : G77 q17 = some (kx (.inr (3, [.ref q27, .int 0, .int 0]))) := by rw [← hE_G77, gw_up_n hn22.symm]; exact hG73
  have hG81 : G77 q27 = some (kA D 1 200 tT) := by rw [← hE_G77, gw_up_n hn33.symm]; exact hG74
  have hG82 : G77 q46 = some (kx (.inr (3, [.ref q60, .int 0, .int 0]))) := by rw [← hE_G77, gw_up_n hn51.symm]; exact hG62
  have hG83 : G77 q60 = some (kA D 1 236 tT) := by rw [← hE_G77, gw_up_n hn66.symm]; exact hG63
  have hf84 : gw_fr (fun b => b = a) G G77 := gw_fr.tr hf76 (by rw [← hE_G77]; exact gw_fr.up rfl)
  refine lv_aload_n hx hb d_Gp_init_46 rfl (lv_at hl 0 rfl) ?_
  refine lv_bipush (v := 8) hx hb d_Gp_init_47 (by decide) ?_
  refine gw_newq M hK hI q_Gp_19 hK.2.2.1 5 rfl (N' := 8) (by decide) rfl (Nat.le_of_ble_eq_true rfl) (Nat.le_of_ble_eq_true rfl) (Nat.le_of_ble_eq_true rfl) (kRk D 5 8 0 (fun _ => 0)) (⟨_, fun _ h => absurd h (Nat.not_lt_zero _), rfl⟩) d_Gp_init_49 (fun q85 H hz86 hI => ?_)
  generalize hE_G87 : gw_up G77 q85 (kRk D 5 8 0 (fun _ => 0)) = G87 at hI
  have hG88 : G87 q85 = some (kRk D 5 8 0 (fun _ => 0)) := by rw [← hE_G87]; exact gw_up_s
  have hn90 : a ≠ q85 := fun q9 => by have h9 := hG78; rw [q9, hz86] at h9; cases h9
  have hG89 : G87 a = some (kx (.inr (5, [.ref q1, .int 0, .ref q17, .ref q46, .null, .null, .null, .null]))) := by rw [← hE_G87, gw_up_n hn90]; exact hG78
  have hn92 : q1 ≠ q85 := fun q9 => by have h9 := hG79; rw [q9, hz86] at h9; cases h9
  have hG91 : G87 q1 = some (kRk D 4 16 0 (fun _ => 0)) := by rw [← hE_G87, gw_up_n hn92]; exact hG79
  have hn94 : q17 ≠ q85 := fun q9 => by have h9 := hG80; rw [q9, hz86] at h9; cases h9
  have hG93 : G87 q17 = some (kx (.inr (3, [.ref q27, .int 0, .int 0]))) := by rw [← hE_G87, gw_up_n hn94]; exact hG80
  have hn96 : q27 ≠ q85 := fun q9 => by have h9 := hG81; rw [q9, hz86] at h9; cases h9
  have hG95 : G87 q27 = some (kA D 1 200 tT) := by rw [← hE_G87, gw_up_n hn96]; exact hG81
  have hn98 : q46 ≠ q85 := fun q9 => by have h9 := hG82; rw [q9, hz86] at h9; cases h9
  have hG97 : G87 q46 = some (kx (.inr (3, [.ref q60, .int 0, .int 0]))) := by rw [← hE_G87, gw_up_n hn98]; exact hG82
  have hn100 : q60 ≠ q85 := fun q9 => by have h9 := hG83; rw [q9, hz86] at h9; cases h9
  have hG99 : G87 q60 = some (kA D 1 236 tT) := by rw [← hE_G87, gw_up_n hn100]; exact hG83
  have hy101 : G q85 = none := by
    cases h9 : G q85 with
    | none => rfl
    | some K9 => exact absurd (hf84 q85 K9 h9 (fun e9 => hn90 e9.symm)) (by rw [hz86]; exact fun h => by cases h)
  have hf102 : gw_fr (fun b => b = a) G G87 := gw_fr.tr hf84 (by rw [← hE_G87]; exact gw_fr.new hz86)
  refine gw_putF M hK hI hG89 i_Gp t_Gp tk_Gp n_Gp rfl 4 (by decide) f_Gp_31 rfl hin rfl rfl (kx (.inr (5, [.ref q1, .int 0, .ref q17, .ref q46, .ref q85, .null, .null, .null]))) (fun x hx => ⟨_, hx, Nat.le_of_ble_eq_true rfl, rfl⟩) d_Gp_init_52 (fun H locs hI => ?_)
  generalize hE_G103 : gw_up G87 a (kx (.inr (5, [.ref q1, .int 0, .ref q17, .ref q46, .ref q85, .null, .null, .null]))) = G103 at hI
  have hG104 : G103 a = some (kx (.inr (5, [.ref q1, .int 0, .ref q17, .ref q46, .ref q85, .null, .null, .null]))) := by rw [← hE_G103]; exact gw_up_s
  have hG105 : G103 q1 = some (kRk D 4 16 0 (fun _ => 0)) := by rw [← hE_G103, gw_up_n hn6.symm]; exact hG91
  have hG106 : G103 q17 = some (kx (.inr (3, [.ref q27, .int 0, .int 0]))) := by rw [← hE_G103, gw_up_n hn22.symm]; exact hG93
  have hG107 : G103 q27 = some (kA D 1 200 tT) := by rw [← hE_G103, gw_up_n hn33.symm]; exact hG95
  have hG108 : G103 q46 = some (kx (.inr (3, [.ref q60, .int 0, .int 0]))) := by rw [← hE_G103, gw_up_n hn51.symm]; exact hG97
  have hG109 : G103 q60 = some (kA D 1 236 tT) := by rw [← hE_G103, gw_up_n hn66.symm]; exact hG99
  have hG110 : G103 q85 = some (kRk D 5 8 0 (fun _ => 0)) := by rw [← hE_G103, gw_up_n hn90.symm]; exact hG88
  have hf111 : gw_fr (fun b => b = a) G G103 := gw_fr.tr hf102 (by rw [← hE_G103]; exact gw_fr.up rfl)
  refine lv_aload_n hx hb d_Gp_init_55 rfl (lv_at hl 0 rfl) ?_
  refine gw_new M hK hI (ci := 3) (fs := [.null, .int 0, .int 0]) i_Ro t_Ro tk_Ro q_Gp_19 j_Ro z_Ro rfl (fun j hj => by rcases (show j = 0 ∨ j = 1 ∨ j = 2 by omega) with rfl | rfl | rfl <;> rfl) (Nat.le_of_ble_eq_true rfl) (Nat.le_of_ble_eq_true rfl) d_Gp_init_56 (fun q112 H hz113 hI => ?_)
  generalize hE_G114 : gw_up G103 q112 (kx (.inr (3, [.null, .int 0, .int 0]))) = G114 at hI
  have hG115 : G114 q112 = some (kx (.inr (3, [.null, .int 0, .int 0]))) := by rw [← hE_G114]; exact gw_up_s
  have hn117 : a ≠ q112 := fun q9 => by have h9 := hG104; rw [q9, hz113] at h9; cases h9
  have hG116 : G114 a = some (kx (.inr (5, [.ref q1, .int 0, .ref q17, .ref q46, .ref q85, .null, .null, .null]))) := by rw [← hE_G114, gw_up_n hn117]; exact hG104
  have hn119 : q1 ≠ q112 := fun q9 => by have h9 := hG105; rw [q9, hz113] at h9; cases h9
  have hG118 : G114 q1 = some (kRk D 4 16 0 (fun _ => 0)) := by rw [← hE_G114, gw_up_n hn119]; exact hG105
  have hn121 : q17 ≠ q112 := fun q9 => by have h9 := hG106; rw [q9, hz113] at h9; cases h9
  have hG120 : G114 q17 = some (kx (.inr (3, [.ref q27, .int 0, .int 0]))) := by rw [← hE_G114, gw_up_n hn121]; exact hG106
  have hn123 : q27 ≠ q112 := fun q9 => by have h9 := hG107; rw [q9, hz113] at h9; cases h9
  have hG122 : G114 q27 = some (kA D 1 200 tT) := by rw [← hE_G114, gw_up_n hn123]; exact hG107
  have hn125 : q46 ≠ q112 := fun q9 => by have h9 := hG108; rw [q9, hz113] at h9; cases h9
  have hG124 : G114 q46 = some (kx (.inr (3, [.ref q60, .int 0, .int 0]))) := by rw [← hE_G114, gw_up_n hn125]; exact hG108
  have hn127 : q60 ≠ q112 := fun q9 => by have h9 := hG109; rw [q9, hz113] at h9; cases h9
  have hG126 : G114 q60 = some (kA D 1 236 tT) := by rw [← hE_G114, gw_up_n hn127]; exact hG109
  have hn129 : q85 ≠ q112 := fun q9 => by have h9 := hG110; rw [q9, hz113] at h9; cases h9
  have hG128 : G114 q85 = some (kRk D 5 8 0 (fun _ => 0)) := by rw [← hE_G114, gw_up_n hn129]; exact hG110
  have hy130 : G q112 = none := by
    cases h9 : G q112 with
    | none => rfl
    | some K9 => exact absurd (hf111 q112 K9 h9 (fun e9 => hn117 e9.symm)) (by rw [hz113]; exact fun h => by cases h)
  have hf131 : gw_fr (fun b => b = a) G G114 := gw_fr.tr hf111 (by rw [← hE_G114]; exact gw_fr.new hz113)
  refine lv_dup hx hb d_Gp_init_59 rfl ?_
  refine lv_sipush (v := 204) hx hb d_Gp_init_60 (by decide) ?_
  refine gw_Iv (As := [.int 204]) (rest := [.ref q112, .ref a]) M hK hI (c_Ro_init l q112 204 (by decide) hG115) k_Ro_init m_Gp_21 rfl hl.1 rfl (Nat.le_of_ble_eq_true rfl) ⟨rfl, rfl, ⟨Nat.le_of_ble_eq_true rfl, Nat.le_of_ble_eq_true rfl⟩, ⟨Nat.le_of_ble_eq_true rfl, Nat.le_of_ble_eq_true rfl⟩⟩ d_Gp_init_63 (fun G137 H locs hw hI => ?_)
  obtain ⟨q132, hz133, hG134, hG135, hfc136⟩ := hw
  have hn138 : a ≠ q132 := fun q9 => by have h9 := hG116; rw [q9, hz133] at h9; cases h9
  have hn139 : q1 ≠ q132 := fun q9 => by have h9 := hG118; rw [q9, hz133] at h9; cases h9
  have hn140 : q17 ≠ q132 := fun q9 => by have h9 := hG120; rw [q9, hz133] at h9; cases h9
  have hn141 : q27 ≠ q132 := fun q9 => by have h9 := hG122; rw [q9, hz133] at h9; cases h9
  have hn142 : q46 ≠ q132 := fun q9 => by have h9 := hG124; rw [q9, hz133] at h9; cases h9
  have hn143 : q60 ≠ q132 := fun q9 => by have h9 := hG126; rw [q9, hz133] at h9; cases h9
  have hn144 : q85 ≠ q132 := fun q9 => by have h9 := hG128; rw [q9, hz133] at h9; cases h9
  have hn145 : q112 ≠ q132 := fun q9 => by have h9 := hG115; rw [q9, hz133] at h9; cases h9
  have hG146 : G137 a = some (kx (.inr (5, [.ref q1, .int 0, .ref q17, .ref q46, .ref q85, .null, .null, .null]))) := hfc136 a _ hG116 hn117
  have hG147 : G137 q1 = some (kRk D 4 16 0 (fun _ => 0)) := hfc136 q1 _ hG118 hn119
  have hG148 : G137 q17 = some (kx (.inr (3, [.ref q27, .int 0, .int 0]))) := hfc136 q17 _ hG120 hn121
  have hG149 : G137 q27 = some (kA D 1 200 tT) := hfc136 q27 _ hG122 hn123
  have hG150 : G137 q46 = some (kx (.inr (3, [.ref q60, .int 0, .int 0]))) := hfc136 q46 _ hG124 hn125
  have hG151 : G137 q60 = some (kA D 1 236 tT) := hfc136 q60 _ hG126 hn127
  have hG152 : G137 q85 = some (kRk D 5 8 0 (fun _ => 0)) := hfc136 q85 _ hG128 hn129
  have hy153 : G q132 = none := by
    cases h9 : G q132 with
    | none => rfl
    | some K9 => exact absurd (hf131 q132 K9 h9 (fun e9 => hn138 e9.symm)) (by rw [hz133]; exact fun h => by cases h)
  have hf154 : gw_fr (fun b => b = a) G G137 := gw_fr.fresh hf131 hy130 hfc136
  refine gw_putF M hK hI hG146 i_Gp t_Gp tk_Gp n_Gp rfl 5 (by decide) f_Gp_35 rfl hin rfl rfl (kx (.inr (5, [.ref q1, .int 0, .ref q17, .ref q46, .ref q85, .ref q112, .null, .null]))) (fun x hx => ⟨_, hx, Nat.le_of_ble_eq_true rfl, rfl⟩) d_Gp_init_66 (fun H locs hI => ?_)
  generalize hE_G155 : gw_up G137 a (kx (.inr (5, [.ref q1, .int 0, .ref q17, .ref q46, .ref q85, .ref q112, .null, .null]))) = G155 at hI
  have hG156 : G155 a = some (kx (.inr (5, [.ref q1, .int 0, .ref q17, .ref q46, .ref q85, .ref q112, .null, .null]))) := by rw [← hE_G155]; exact gw_up_s
  have hG157 : G155 q1 = some (kRk D 4 16 0 (fun _ => 0)) := by rw [← hE_G155, gw_up_n hn6.symm]; exact hG147
  have hG158 : G155 q17 = some (kx (.inr (3, [.ref q27, .int 0, .int 0]))) := by rw [← hE_G155, gw_up_n hn22.symm]; exact hG148
  have hG159 : G155 q27 = some (kA D 1 200 tT) := by rw [← hE_G155, gw_up_n hn33.symm]; exact hG149
  have hG160 : G155 q46 = some (kx (.inr (3, [.ref q60, .int 0, .int 0]))) := by rw [← hE_G155, gw_up_n hn51.symm]; exact hG150
  have hG161 : G155 q60 = some (kA D 1 236 tT) := by rw [← hE_G155, gw_up_n hn66.symm]; exact hG151
  have hG162 : G155 q85 = some (kRk D 5 8 0 (fun _ => 0)) := by rw [← hE_G155, gw_up_n hn90.symm]; exact hG152
  have hG163 : G155 q112 = some (kx (.inr (3, [.ref q132, .int 0, .int 0]))) := by rw [← hE_G155, gw_up_n hn117.symm]; exact hG134
  have hG164 : G155 q132 = some (kA D 1 204 tT) := by rw [← hE_G155, gw_up_n hn138.symm]; exact hG135
  have hf165 : gw_fr (fun b => b = a) G G155 := gw_fr.tr hf154 (by rw [← hE_G155]; exact gw_fr.up rfl)
  refine lv_aload_n hx hb d_Gp_init_69 rfl (lv_at hl 0 rfl) ?_
  refine gw_new M hK hI (ci := 3) (fs := [.null, .int 0, .int 0]) i_Ro t_Ro tk_Ro q_Gp_19 j_Ro z_Ro rfl (fun j hj => by rcases (show j = 0 ∨ j = 1 ∨ j = 2 by omega) with rfl | rfl | rfl <;> rfl) (Nat.le_of_ble_eq_true rfl) (Nat.le_of_ble_eq_true rfl) d_Gp_init_70 (fun q166 H hz167 hI => ?_)
  generalize hE_G168 : gw_up G155 q166 (kx (.inr (3, [.null, .int 0, .int 0]))) = G168 at hI
  have hG169 : G168 q166 = some (kx (.inr (3, [.null, .int 0, .int 0]))) := by rw [← hE_G168]; exact gw_up_s
  have hn171 : a ≠ q166 := fun q9 => by have h9 := hG156; rw [q9, hz167] at h9; cases h9
  have hG170 : G168 a = some (kx (.inr (5, [.ref q1, .int 0, .ref q17, .ref q46, .ref q85, .ref q112, .null, .null]))) := by rw [← hE_G168, gw_up_n hn171]; exact hG156
  have hn173 : q1 ≠ q166 := fun q9 => by have h9 := hG157; rw [q9, hz167] at h9; cases h9
  have hG172 : G168 q1 = some (kRk D 4 16 0 (fun _ => 0)) := by rw [← hE_G168, gw_up_n hn173]; exact hG157
  have hn175 : q17 ≠ q166 := fun q9 => by have h9 := hG158; rw [q9, hz167] at h9; cases h9
  have hG174 : G168 q17 = some (kx (.inr (3, [.ref q27, .int 0, .int 0]))) := by rw [← hE_G168, gw_up_n hn175]; exact hG158
  have hn177 : q27 ≠ q166 := fun q9 => by have h9 := hG159; rw [q9, hz167] at h9; cases h9
  have hG176 : G168 q27 = some (kA D 1 200 tT) := by rw [← hE_G168, gw_up_n hn177]; exact hG159
  have hn179 : q46 ≠ q166 := fun q9 => by have h9 := hG160; rw [q9, hz167] at h9; cases h9
  have hG178 : G168 q46 = some (kx (.inr (3, [.ref q60, .int 0, .int 0]))) := by rw [← hE_G168, gw_up_n hn179]; exact hG160
  have hn181 : q60 ≠ q166 := fun q9 => by have h9 := hG161; rw [q9, hz167] at h9; cases h9
  have hG180 : G168 q60 = some (kA D 1 236 tT) := by rw [← hE_G168, gw_up_n hn181]; exact hG161
  have hn183 : q85 ≠ q166 := fun q9 => by have h9 := hG162; rw [q9, hz167] at h9; cases h9
  have hG182 : G168 q85 = some (kRk D 5 8 0 (fun _ => 0)) := by rw [← hE_G168, gw_up_n hn183]; exact hG162
  have hn185 : q112 ≠ q166 := fun q9 => by have h9 := hG163; rw [q9, hz167] at h9; cases h9
  have hG184 : G168 q112 = some (kx (.inr (3, [.ref q132, .int 0, .int 0]))) := by rw [← hE_G168, gw_up_n hn185]; exact hG163
  have hn187 : q132 ≠ q166 := fun q9 => by have h9 := hG164; rw [q9, hz167] at h9; cases h9
  have hG186 : G168 q132 = some (kA D 1 204 tT) := by rw [← hE_G168, gw_up_n hn187]; exact hG164
  have hy188 : G q166 = none := by
    cases h9 : G q166 with
    | none => rfl
    | some K9 => exact absurd (hf165 q166 K9 h9 (fun e9 => hn171 e9.symm)) (by rw [hz167]; exact fun h => by cases h)
  have hf189 : gw_fr (fun b => b = a) G G168 := gw_fr.tr hf165 (by rw [← hE_G168]; exact gw_fr.new hz167)
  refine lv_dup hx hb d_Gp_init_73 rfl ?_
  refine lv_sipush (v := 204) hx hb d_Gp_init_74 (by decide) ?_
  refine gw_Iv (As := [.int 204]) (rest := [.ref q166, .ref a]) M hK hI (c_Ro_init l q166 204 (by decide) hG169) k_Ro_init m_Gp_21 rfl hl.1 rfl (Nat.le_of_ble_eq_true rfl) ⟨rfl, rfl, ⟨Nat.le_of_ble_eq_true rfl, Nat.le_of_ble_eq_true rfl⟩, ⟨Nat.le_of_ble_eq_true rfl, Nat.le_of_ble_eq_true rfl⟩⟩ d_Gp_init_77 (fun G195 H locs hw hI => ?_)
  obtain ⟨q190, hz191, hG192, hG193, hfc194⟩ := hw
  have hn196 : a ≠ q190 := fun q9 => by have h9 := hG170; rw [q9, hz191] at h9; cases h9
  have hn197 : q1 ≠ q190 := fun q9 => by have h9 := hG172; rw [q9, hz191] at h9; cases h9
  have hn198 : q17 ≠ q190 := fun q9 => by have h9 := hG174; rw [q9, hz191] at h9; cases h9
  have hn199 : q27 ≠ q190 := fun q9 => by have h9 := hG176; rw [q9, hz191] at h9; cases h9
  have hn200 : q46 ≠ q190 := fun q9 => by have h9 := hG178; rw [q9, hz191] at h9; cases h9
  have hn201 : q60 ≠ q190 := fun q9 => by have h9 := hG180; rw [q9, hz191] at h9; cases h9
  have hn202 : q85 ≠ q190 := fun q9 => by have h9 := hG182; rw [q9, hz191] at h9; cases h9
  have hn203 : q112 ≠ q190 := fun q9 => by have h9 := hG184; rw [q9, hz191] at h9; cases h9
  have hn204 : q132 ≠ q190 := fun q9 => by have h9 := hG186; rw [q9, hz191] at h9; cases h9
  have hn205 : q166 ≠ q190 := fun q9 => by have h9 := hG169; rw [q9, hz191] at h9; cases h9
  have hG206 : G195 a = some (kx (.inr (5, [.ref q1, .int 0, .ref q17, .ref q46, .ref q85, .ref q112, .null, .null]))) := hfc194 a _ hG170 hn171
  have hG207 : G195 q1 = some (kRk D 4 16 0 (fun _ => 0)) := hfc194 q1 _ hG172 hn173
  have hG208 : G195 q17 = some (kx (.inr (3, [.ref q27, .int 0, .int 0]))) := hfc194 q17 _ hG174 hn175
  have hG209 : G195 q27 = some (kA D 1 200 tT) := hfc194 q27 _ hG176 hn177
  have hG210 : G195 q46 = some (kx (.inr (3, [.ref q60, .int 0, .int 0]))) := hfc194 q46 _ hG178 hn179
  have hG211 : G195 q60 = some (kA D 1 236 tT) := hfc194 q60 _ hG180 hn181
  have hG212 : G195 q85 = some (kRk D 5 8 0 (fun _ => 0)) := hfc194 q85 _ hG182 hn183
  have hG213 : G195 q112 = some (kx (.inr (3, [.ref q132, .int 0, .int 0]))) := hfc194 q112 _ hG184 hn185
  have hG214 : G195 q132 = some (kA D 1 204 tT) := hfc194 q132 _ hG186 hn187
  have hy215 : G q190 = none := by
    cases h9 : G q190 with
    | none => rfl
    | some K9 => exact absurd (hf189 q190 K9 h9 (fun e9 => hn196 e9.symm)) (by rw [hz191]; exact fun h => by cases h)
  have hf216 : gw_fr (fun b => b = a) G G195 := gw_fr.fresh hf189 hy188 hfc194
  refine gw_putF M hK hI hG206 i_Gp t_Gp tk_Gp n_Gp rfl 6 (by decide) f_Gp_38 rfl hin rfl rfl (kx (.inr (5, [.ref q1, .int 0, .ref q17, .ref q46, .ref q85, .ref q112, .ref q166, .null]))) (fun x hx => ⟨_, hx, Nat.le_of_ble_eq_true rfl, rfl⟩) d_Gp_init_80 (fun H locs hI => ?_)
  generalize hE_G217 : gw_up G195 a (kx (.inr (5, [.ref q1, .int 0, .ref q17, .ref q46, .ref q85, .ref q112, .ref q166, .null]))) = G217 at hI
  have hG218 : G217 a = some (kx (.inr (5, [.ref q1, .int 0, .ref q17, .ref q46, .ref q85, .ref q112, .ref q166, .null]))) := by rw [← hE_G217]; exact gw_up_s
  have hG219 : G217 q1 = some (kRk D 4 16 0 (fun _ => 0)) := by rw [← hE_G217, gw_up_n hn6.symm]; exact hG207
  have hG220 : G217 q17 = some (kx (.inr (3, [.ref q27, .int 0, .int 0]))) := by rw [← hE_G217, gw_up_n hn22.symm]; exact hG208
  have hG221 : G217 q27 = some (kA D 1 200 tT) := by rw [← hE_G217, gw_up_n hn33.symm]; exact hG209
  have hG222 : G217 q46 = some (kx (.inr (3, [.ref q60, .int 0, .int 0]))) := by rw [← hE_G217, gw_up_n hn51.symm]; exact hG210
  have hG223 : G217 q60 = some (kA D 1 236 tT) := by rw [← hE_G217, gw_up_n hn66.symm]; exact hG211
  have hG224 : G217 q85 = some (kRk D 5 8 0 (fun _ => 0)) := by rw [← hE_G217, gw_up_n hn90.symm]; exact hG212
  have hG225 : G217 q112 = some (kx (.inr (3, [.ref q132, .int 0, .int 0]))) := by rw [← hE_G217, gw_up_n hn117.symm]; exact hG213
  have hG226 : G217 q132 = some (kA D 1 204 tT) := by rw [← hE_G217, gw_up_n hn138.symm]; exact hG214
  have hG227 : G217 q166 = some (kx (.inr (3, [.ref q190, .int 0, .int 0]))) := by rw [← hE_G217, gw_up_n hn171.symm]; exact hG192
  have hG228 : G217 q190 = some (kA D 1 204 tT) := by rw [← hE_G217, gw_up_n hn196.symm]; exact hG193
  have hf229 : gw_fr (fun b => b = a) G G217 := gw_fr.tr hf216 (by rw [← hE_G217]; exact gw_fr.up rfl)
  refine lv_aload_n hx hb d_Gp_init_83 rfl (lv_at hl 0 rfl) ?_
  refine gw_new M hK hI (ci := 1) (fs := [.long 0, .long 0]) i_Ch t_Ch tk_Ch q_Gp_41 j_Ch z_Ch rfl (fun j hj => by rcases (show j = 0 ∨ j = 1 by omega) with rfl | rfl <;> rfl) (Nat.le_of_ble_eq_true rfl) (Nat.le_of_ble_eq_true rfl) d_Gp_init_84 (fun q230 H hz231 hI => ?_)
  generalize hE_G232 : gw_up G217 q230 (kx (.inr (1, [.long 0, .long 0]))) = G232 at hI
  have hG233 : G232 q230 = some (kx (.inr (1, [.long 0, .long 0]))) := by rw [← hE_G232]; exact gw_up_s
  have hn235 : a ≠ q230 := fun q9 => by have h9 := hG218; rw [q9, hz231] at h9; cases h9
  have hG234 : G232 a = some (kx (.inr (5, [.ref q1, .int 0, .ref q17, .ref q46, .ref q85, .ref q112, .ref q166, .null]))) := by rw [← hE_G232, gw_up_n hn235]; exact hG218
  have hn237 : q1 ≠ q230 := fun q9 => by have h9 := hG219; rw [q9, hz231] at h9; cases h9
  have hG236 : G232 q1 = some (kRk D 4 16 0 (fun _ => 0)) := by rw [← hE_G232, gw_up_n hn237]; exact hG219
  have hn239 : q17 ≠ q230 := fun q9 => by have h9 := hG220; rw [q9, hz231] at h9; cases h9
  have hG238 : G232 q17 = some (kx (.inr (3, [.ref q27, .int 0, .int 0]))) := by rw [← hE_G232, gw_up_n hn239]; exact hG220
  have hn241 : q27 ≠ q230 := fun q9 => by have h9 := hG221; rw [q9, hz231] at h9; cases h9
  have hG240 : G232 q27 = some (kA D 1 200 tT) := by rw [← hE_G232, gw_up_n hn241]; exact hG221
  have hn243 : q46 ≠ q230 := fun q9 => by have h9 := hG222; rw [q9, hz231] at h9; cases h9
  have hG242 : G232 q46 = some (kx (.inr (3, [.ref q60, .int 0, .int 0]))) := by rw [← hE_G232, gw_up_n hn243]; exact hG222
  have hn245 : q60 ≠ q230 := fun q9 => by have h9 := hG223; rw [q9, hz231] at h9; cases h9
  have hG244 : G232 q60 = some (kA D 1 236 tT) := by rw [← hE_G232, gw_up_n hn245]; exact hG223
  have hn247 : q85 ≠ q230 := fun q9 => by have h9 := hG224; rw [q9, hz231] at h9; cases h9
  have hG246 : G232 q85 = some (kRk D 5 8 0 (fun _ => 0)) := by rw [← hE_G232, gw_up_n hn247]; exact hG224
  have hn249 : q112 ≠ q230 := fun q9 => by have h9 := hG225; rw [q9, hz231] at h9; cases h9
  have hG248 : G232 q112 = some (kx (.inr (3, [.ref q132, .int 0, .int 0]))) := by rw [← hE_G232, gw_up_n hn249]; exact hG225
  have hn251 : q132 ≠ q230 := fun q9 => by have h9 := hG226; rw [q9, hz231] at h9; cases h9
  have hG250 : G232 q132 = some (kA D 1 204 tT) := by rw [← hE_G232, gw_up_n hn251]; exact hG226
  have hn253 : q166 ≠ q230 := fun q9 => by have h9 := hG227; rw [q9, hz231] at h9; cases h9
  have hG252 : G232 q166 = some (kx (.inr (3, [.ref q190, .int 0, .int 0]))) := by rw [← hE_G232, gw_up_n hn253]; exact hG227
  have hn255 : q190 ≠ q230 := fun q9 => by have h9 := hG228; rw [q9, hz231] at h9; cases h9
  have hG254 : G232 q190 = some (kA D 1 204 tT) := by rw [← hE_G232, gw_up_n hn255]; exact hG228
  have hy256 : G q230 = none := by
    cases h9 : G q230 with
    | none => rfl
    | some K9 => exact absurd (hf229 q230 K9 h9 (fun e9 => hn235 e9.symm)) (by rw [hz231]; exact fun h => by cases h)
  have hf257 : gw_fr (fun b => b = a) G G232 := gw_fr.tr hf229 (by rw [← hE_G232]; exact gw_fr.new hz231)
  refine lv_dup hx hb d_Gp_init_87 rfl ?_
  refine gw_Nv (As := []) (rest := [.ref q230, .ref a]) M hK hI (c_Ch_init l q230 hG233) k_Ch_init hK.2.2.2.1 rfl hl.1 rfl (Nat.le_of_ble_eq_true rfl) ⟨rfl, rfl, ⟨Nat.le_of_ble_eq_true rfl, Nat.le_of_ble_eq_true rfl⟩, ⟨Nat.le_of_ble_eq_true rfl, Nat.le_of_ble_eq_true rfl⟩⟩ d_Gp_init_88 (fun G260 H locs hw hI => ?_)
  obtain ⟨hG258, hfc259⟩ := hw
  have hG261 : G260 a = some (kx (.inr (5, [.ref q1, .int 0, .ref q17, .ref q46, .ref q85, .ref q112, .ref q166, .null]))) := hfc259 a _ hG234 hn235
  have hG262 : G260 q1 = some (kRk D 4 16 0 (fun _ => 0)) := hfc259 q1 _ hG236 hn237
  have hG263 : G260 q17 = some (kx (.inr (3, [.ref q27, .int 0, .int 0]))) := hfc259 q17 _ hG238 hn239
  have hG264 : G260 q27 = some (kA D 1 200 tT) := hfc259 q27 _ hG240 hn241
  have hG265 : G260 q46 = some (kx (.inr (3, [.ref q60, .int 0, .int 0]))) := hfc259 q46 _ hG242 hn243
  have hG266 : G260 q60 = some (kA D 1 236 tT) := hfc259 q60 _ hG244 hn245
  have hG267 : G260 q85 = some (kRk D 5 8 0 (fun _ => 0)) := hfc259 q85 _ hG246 hn247
  have hG268 : G260 q112 = some (kx (.inr (3, [.ref q132, .int 0, .int 0]))) := hfc259 q112 _ hG248 hn249
  have hG269 : G260 q132 = some (kA D 1 204 tT) := hfc259 q132 _ hG250 hn251
  have hG270 : G260 q166 = some (kx (.inr (3, [.ref q190, .int 0, .int 0]))) := hfc259 q166 _ hG252 hn253
  have hG271 : G260 q190 = some (kA D 1 204 tT) := hfc259 q190 _ hG254 hn255
  have hf272 : gw_fr (fun b => b = a) G G260 := gw_fr.fresh hf257 hy256 hfc259
  refine gw_putF M hK hI hG261 i_Gp t_Gp tk_Gp n_Gp rfl 7 (by decide) f_Gp_44 rfl hin rfl rfl (kx (.inr (5, [.ref q1, .int 0, .ref q17, .ref q46, .ref q85, .ref q112, .ref q166, .ref q230]))) (fun x hx => ⟨_, hx, Nat.le_of_ble_eq_true rfl, rfl⟩) d_Gp_init_91 (fun H locs hI => ?_)
  generalize hE_G273 : gw_up G260 a (kx (.inr (5, [.ref q1, .int 0, .ref q17, .ref q46, .ref q85, .ref q112, .ref q166, .ref q230]))) = G273 at hI
  have hG274 : G273 a = some (kx (.inr (5, [.ref q1, .int 0, .ref q17, .ref q46, .ref q85, .ref q112, .ref q166, .ref q230]))) := by rw [← hE_G273]; exact gw_up_s
  have hG275 : G273 q1 = some (kRk D 4 16 0 (fun _ => 0)) := by rw [← hE_G273, gw_up_n hn6.symm]; exact hG262
  have hG276 : G273 q17 = some (kx (.inr (3, [.ref q27, .int 0, .int 0]))) := by rw [← hE_G273, gw_up_n hn22.symm]; exact hG263
  have hG277 : G273 q27 = some (kA D 1 200 tT) := by rw [← hE_G273, gw_up_n hn33.symm]; exact hG264
  have hG278 : G273 q46 = some (kx (.inr (3, [.ref q60, .int 0, .int 0]))) := by rw [← hE_G273, gw_up_n hn51.symm]; exact hG265
  have hG279 : G273 q60 = some (kA D 1 236 tT) := by rw [← hE_G273, gw_up_n hn66.symm]; exact hG266
  have hG280 : G273 q85 = some (kRk D 5 8 0 (fun _ => 0)) := by rw [← hE_G273, gw_up_n hn90.symm]; exact hG267
  have hG281 : G273 q112 = some (kx (.inr (3, [.ref q132, .int 0, .int 0]))) := by rw [← hE_G273, gw_up_n hn117.symm]; exact hG268
  have hG282 : G273 q132 = some (kA D 1 204 tT) := by rw [← hE_G273, gw_up_n hn138.symm]; exact hG269
  have hG283 : G273 q166 = some (kx (.inr (3, [.ref q190, .int 0, .int 0]))) := by rw [← hE_G273, gw_up_n hn171.symm]; exact hG270
  have hG284 : G273 q190 = some (kA D 1 204 tT) := by rw [← hE_G273, gw_up_n hn196.symm]; exact hG271
  have hG285 : G273 q230 = some (kx (.inr (1, [.long 0, .long 0]))) := by rw [← hE_G273, gw_up_n hn235.symm]; exact hG258
  have hf286 : gw_fr (fun b => b = a) G G273 := gw_fr.tr hf272 (by rw [← hE_G273]; exact gw_fr.up rfl)
  refine lv_iconst (v := 0) hx hb d_Gp_init_94 (by decide) ?_
  refine lv_istore_n (lv' := [(1, .int 0), (0, .ref a)]) hx hb d_Gp_init_95 rfl hl (by decide) rfl (fun ls hl => ?_)
  have hI := hI.soft (K' := (kRo q60 236)) hG278 (fun e h => ⟨0, 0, ⟨0, Nat.zero_le _, rfl⟩, Or.inl rfl, h⟩)
  generalize hE_G287 : gw_up G273 q46 (kRo q60 236) = G287 at hI
  have hG288 : G287 a = some (kx (.inr (5, [.ref q1, .int 0, .ref q17, .ref q46, .ref q85, .ref q112, .ref q166, .ref q230]))) := by rw [← hE_G287, gw_up_n hn51]; exact hG274
  have hG289 : G287 q1 = some (kRk D 4 16 0 (fun _ => 0)) := by rw [← hE_G287, gw_up_n hn53]; exact hG275
  have hG290 : G287 q17 = some (kx (.inr (3, [.ref q27, .int 0, .int 0]))) := by rw [← hE_G287, gw_up_n hn55]; exact hG276
  have hG291 : G287 q27 = some (kA D 1 200 tT) := by rw [← hE_G287, gw_up_n hn57]; exact hG277
  have hG292 : G287 q46 = some (kRo q60 236) := by rw [← hE_G287]; exact gw_up_s
  have hG293 : G287 q60 = some (kA D 1 236 tT) := by rw [← hE_G287, gw_up_n hn70.symm]; exact hG279
  have hG294 : G287 q85 = some (kRk D 5 8 0 (fun _ => 0)) := by rw [← hE_G287, gw_up_n hn98.symm]; exact hG280
  have hG295 : G287 q112 = some (kx (.inr (3, [.ref q132, .int 0, .int 0]))) := by rw [← hE_G287, gw_up_n hn125.symm]; exact hG281
  have hG296 : G287 q132 = some (kA D 1 204 tT) := by rw [← hE_G287, gw_up_n hn142.symm]; exact hG282
  have hG297 : G287 q166 = some (kx (.inr (3, [.ref q190, .int 0, .int 0]))) := by rw [← hE_G287, gw_up_n hn179.symm]; exact hG283
  have hG298 : G287 q190 = some (kA D 1 204 tT) := by rw [← hE_G287, gw_up_n hn200.symm]; exact hG284
  have hG299 : G287 q230 = some (kx (.inr (1, [.long 0, .long 0]))) := by rw [← hE_G287, gw_up_n hn243.symm]; exact hG285
  have hf300 : gw_fr (fun b => b = a) G G287 := gw_fr.fresh hf286 hy58 (by rw [← hE_G287]; exact gw_fr.up rfl)
  have hI := hI.soft (K' := (kRo q132 204)) hG295 (fun e h => ⟨0, 0, ⟨0, Nat.zero_le _, rfl⟩, Or.inl rfl, h⟩)
  generalize hE_G301 : gw_up G287 q112 (kRo q132 204) = G301 at hI
  have hG302 : G301 a = some (kx (.inr (5, [.ref q1, .int 0, .ref q17, .ref q46, .ref q85, .ref q112, .ref q166, .ref q230]))) := by rw [← hE_G301, gw_up_n hn117]; exact hG288
  have hG303 : G301 q1 = some (kRk D 4 16 0 (fun _ => 0)) := by rw [← hE_G301, gw_up_n hn119]; exact hG289
  have hG304 : G301 q17 = some (kx (.inr (3, [.ref q27, .int 0, .int 0]))) := by rw [← hE_G301, gw_up_n hn121]; exact hG290
  have hG305 : G301 q27 = some (kA D 1 200 tT) := by rw [← hE_G301, gw_up_n hn123]; exact hG291
  have hG306 : G301 q46 = some (kRo q60 236) := by rw [← hE_G301, gw_up_n hn125]; exact hG292
  have hG307 : G301 q60 = some (kA D 1 236 tT) := by rw [← hE_G301, gw_up_n hn127]; exact hG293
  have hG308 : G301 q85 = some (kRk D 5 8 0 (fun _ => 0)) := by rw [← hE_G301, gw_up_n hn129]; exact hG294
  have hG309 : G301 q112 = some (kRo q132 204) := by rw [← hE_G301]; exact gw_up_s
  have hG310 : G301 q132 = some (kA D 1 204 tT) := by rw [← hE_G301, gw_up_n hn145.symm]; exact hG296
  have hG311 : G301 q166 = some (kx (.inr (3, [.ref q190, .int 0, .int 0]))) := by rw [← hE_G301, gw_up_n hn185.symm]; exact hG297
  have hG312 : G301 q190 = some (kA D 1 204 tT) := by rw [← hE_G301, gw_up_n hn203.symm]; exact hG298
  have hG313 : G301 q230 = some (kx (.inr (1, [.long 0, .long 0]))) := by rw [← hE_G301, gw_up_n hn249.symm]; exact hG299
  have hf314 : gw_fr (fun b => b = a) G G301 := gw_fr.fresh hf300 hy130 (by rw [← hE_G301]; exact gw_fr.up rfl)
  have hI := hI.soft (K' := (kRo q190 204)) hG311 (fun e h => ⟨0, 0, ⟨0, Nat.zero_le _, rfl⟩, Or.inl rfl, h⟩)
  generalize hE_G315 : gw_up G301 q166 (kRo q190 204) = G315 at hI
  have hG316 : G315 a = some (kx (.inr (5, [.ref q1, .int 0, .ref q17, .ref q46, .ref q85, .ref q112, .ref q166, .ref q230]))) := by rw [← hE_G315, gw_up_n hn171]; exact hG302
  have hG317 : G315 q1 = some (kRk D 4 16 0 (fun _ => 0)) := by rw [← hE_G315, gw_up_n hn173]; exact hG303
  have hG318 : G315 q17 = some (kx (.inr (3, [.ref q27, .int 0, .int 0]))) := by rw [← hE_G315, gw_up_n hn175]; exact hG304
  have hG319 : G315 q27 = some (kA D 1 200 tT) := by rw [← hE_G315, gw_up_n hn177]; exact hG305
  have hG320 : G315 q46 = some (kRo q60 236) := by rw [← hE_G315, gw_up_n hn179]; exact hG306
  have hG321 : G315 q60 = some (kA D 1 236 tT) := by rw [← hE_G315, gw_up_n hn181]; exact hG307
  have hG322 : G315 q85 = some (kRk D 5 8 0 (fun _ => 0)) := by rw [← hE_G315, gw_up_n hn183]; exact hG308
  have hG323 : G315 q112 = some (kRo q132 204) := by rw [← hE_G315, gw_up_n hn185]; exact hG309
  have hG324 : G315 q132 = some (kA D 1 204 tT) := by rw [← hE_G315, gw_up_n hn187]; exact hG310
  have hG325 : G315 q166 = some (kRo q190 204) := by rw [← hE_G315]; exact gw_up_s
  have hG326 : G315 q190 = some (kA D 1 204 tT) := by rw [← hE_G315, gw_up_n hn205.symm]; exact hG312
  have hG327 : G315 q230 = some (kx (.inr (1, [.long 0, .long 0]))) := by rw [← hE_G315, gw_up_n hn253.symm]; exact hG313
  have hf328 : gw_fr (fun b => b = a) G G315 := gw_fr.fresh hf314 hy188 (by rw [← hE_G315]; exact gw_fr.up rfl)
  have hI := hI.soft (K' := kCh) hG327 (fun e h => ⟨0, 0, h⟩)
  generalize hE_G329 : gw_up G315 q230 kCh = G329 at hI
  have hG330 : G329 a = some (kx (.inr (5, [.ref q1, .int 0, .ref q17, .ref q46, .ref q85, .ref q112, .ref q166, .ref q230]))) := by rw [← hE_G329, gw_up_n hn235]; exact hG316
  have hG331 : G329 q1 = some (kRk D 4 16 0 (fun _ => 0)) := by rw [← hE_G329, gw_up_n hn237]; exact hG317
  have hG332 : G329 q17 = some (kx (.inr (3, [.ref q27, .int 0, .int 0]))) := by rw [← hE_G329, gw_up_n hn239]; exact hG318
  have hG333 : G329 q27 = some (kA D 1 200 tT) := by rw [← hE_G329, gw_up_n hn241]; exact hG319
  have hG334 : G329 q46 = some (kRo q60 236) := by rw [← hE_G329, gw_up_n hn243]; exact hG320
  have hG335 : G329 q60 = some (kA D 1 236 tT) := by rw [← hE_G329, gw_up_n hn245]; exact hG321
  have hG336 : G329 q85 = some (kRk D 5 8 0 (fun _ => 0)) := by rw [← hE_G329, gw_up_n hn247]; exact hG322
  have hG337 : G329 q112 = some (kRo q132 204) := by rw [← hE_G329, gw_up_n hn249]; exact hG323
  have hG338 : G329 q132 = some (kA D 1 204 tT) := by rw [← hE_G329, gw_up_n hn251]; exact hG324
  have hG339 : G329 q166 = some (kRo q190 204) := by rw [← hE_G329, gw_up_n hn253]; exact hG325
  have hG340 : G329 q190 = some (kA D 1 204 tT) := by rw [← hE_G329, gw_up_n hn255]; exact hG326
  have hG341 : G329 q230 = some kCh := by rw [← hE_G329]; exact gw_up_s
  have hf342 : gw_fr (fun b => b = a) G G329 := gw_fr.fresh hf328 hy256 (by rw [← hE_G329]; exact gw_fr.up rfl)
  have L_96 : ∀ (n9 : Nat) (k : Nat) (y1 : Int32) (Gk : gw_G) (as : Nat → Nat) (H : Heap) (locs : List Loc) (ls : Array Slot), k ≤ 16 → y1 = nI k → Gk a = some (kx (.inr (5, [.ref q1, .int 0, .ref q17, .ref q46, .ref q85, .ref q112, .ref q166, .ref q230]))) → Gk q17 = some (kx (.inr (3, [.ref q27, .int 0, .int 0]))) → Gk q27 = some (kA D 1 200 tT) → Gk q46 = some (kRo q60 236) → Gk q60 = some (kA D 1 236 tT) → Gk q85 = some (kRk D 5 8 0 (fun _ => 0)) → Gk q112 = some (kRo q132 204) → Gk q132 = some (kA D 1 204 tT) → Gk q166 = some (kRo q190 204) → Gk q190 = some (kA D 1 204 tT) → Gk q230 = some kCh → Gk q1 = some (kRk D 4 16 k as) → (∀ j, j < k → isAv D Gk (as j)) → (∀ i j, i < k → j < k → as i = as j → i = j) → gw_fr (fun b => b = a) G Gk → 16 - k < n9 → gw_I D Hs Gk s.heap H locs → lv_has ls 2 [(1, .int y1), (0, .ref a)] → W p l e rm_Gp_init s m args below meth c H locs (11 + 5 * k) (4038 + 94 * k) (MQ below (gw_Qv D Hs (fun G1 => (∃ A, A 0 0 = a ∧ cls D G1 A (fun j => j) 0 0 (fun _ => 0) (fun _ => 0) (fun _ => 0) (fun _ => 0)) ∧ gw_fr (fun b => b = a) G G1)) args s 107 13566 (gw_A Hs)) (F0 m 96 ls []) := by
    intro n9
    induction n9 with
    | zero =>
      intro k y1 Gk as H locs ls h16 hk h_a h_fed h_fb h_sent h_sb h_places h_plain h_pb h_gained h_gb h_check h_arr hAs hinj hfG hm hI hl
      exact absurd hm (Nat.not_lt_zero _)
    | succ n9 ih_96 =>
      intro k y1 Gk as H locs ls h16 hk h_a h_fed h_fb h_sent h_sb h_places h_plain h_pb h_gained h_gb h_check h_arr hAs hinj hfG hm_96 hI hl
      have hfk : gw_fr (fun b => b = q1) Gk Gk := gw_fr.rf
      refine lv_iload_n hx hb d_Gp_init_96 rfl (lv_at hl 0 rfl) ?_
      refine lv_bipush (v := 16) hx hb d_Gp_init_97 (by decide) ?_
      refine lv_icmp_ge (tgt := 121) hx hb d_Gp_init_99 (by decide) (fun c_99 => ?_) (fun c_99 => ?_)
      · have hk16 : k = 16 := Nat.le_antisymm h16 (nb_ge (n := 16) hk c_99 (by decide) (z_31 h16))
        subst hk16
        have hI := hI.soft (K' := (kR D 4 16 (fun j b => b = as j))) h_arr kRk_full
        generalize hE_G343 : gw_up Gk q1 (kR D 4 16 (fun j b => b = as j)) = G343 at hI
        have hG344 : G343 a = some (kx (.inr (5, [.ref q1, .int 0, .ref q17, .ref q46, .ref q85, .ref q112, .ref q166, .ref q230]))) := by rw [← hE_G343, gw_up_n hn6]; exact h_a
        have hG345 : G343 q17 = some (kx (.inr (3, [.ref q27, .int 0, .int 0]))) := by rw [← hE_G343, gw_up_n hn24.symm]; exact h_fed
        have hG346 : G343 q27 = some (kA D 1 200 tT) := by rw [← hE_G343, gw_up_n hn34.symm]; exact h_fb
        have hG347 : G343 q46 = some (kRo q60 236) := by rw [← hE_G343, gw_up_n hn53.symm]; exact h_sent
        have hG348 : G343 q60 = some (kA D 1 236 tT) := by rw [← hE_G343, gw_up_n hn67.symm]; exact h_sb
        have hG349 : G343 q85 = some (kRk D 5 8 0 (fun _ => 0)) := by rw [← hE_G343, gw_up_n hn92.symm]; exact h_places
        have hG350 : G343 q112 = some (kRo q132 204) := by rw [← hE_G343, gw_up_n hn119.symm]; exact h_plain
        have hG351 : G343 q132 = some (kA D 1 204 tT) := by rw [← hE_G343, gw_up_n hn139.symm]; exact h_pb
        have hG352 : G343 q166 = some (kRo q190 204) := by rw [← hE_G343, gw_up_n hn173.symm]; exact h_gained
        have hG353 : G343 q190 = some (kA D 1 204 tT) := by rw [← hE_G343, gw_up_n hn197.symm]; exact h_gb
        have hG354 : G343 q230 = some kCh := by rw [← hE_G343, gw_up_n hn237.symm]; exact h_check
        have hG355 : G343 q1 = some (kR D 4 16 (fun j b => b = as j)) := by rw [← hE_G343]; exact gw_up_s
        have hfx : gw_fr (fun b => b = q1) Gk G343 := by rw [← hE_G343]; exact gw_fr.up rfl
        have hAs := fun j hj => (hAs j hj).mono hfx h_arr
        have hfG : gw_fr (fun b => b = a) G G343 := gw_fr.fresh hfG hy7 hfx
        refine lv_iconst (v := 0) hx hb d_Gp_init_121 (by decide) ?_
        refine lv_istore_n (lv' := [(1, .int 0), (0, .ref a)]) hx hb d_Gp_init_122 rfl hl (by decide) rfl (fun ls hl => ?_)
        have L_123 : ∀ (n9 : Nat) (k : Nat) (y1 : Int32) (Gm : gw_G) (ro : Nat → Nat) (H : Heap) (locs : List Loc) (ls : Array Slot), k ≤ 8 → y1 = nI k → Gm a = some (kx (.inr (5, [.ref q1, .int 0, .ref q17, .ref q46, .ref q85, .ref q112, .ref q166, .ref q230]))) → Gm q17 = some (kx (.inr (3, [.ref q27, .int 0, .int 0]))) → Gm q27 = some (kA D 1 200 tT) → Gm q46 = some (kRo q60 236) → Gm q60 = some (kA D 1 236 tT) → Gm q112 = some (kRo q132 204) → Gm q132 = some (kA D 1 204 tT) → Gm q166 = some (kRo q190 204) → Gm q190 = some (kA D 1 204 tT) → Gm q230 = some kCh → Gm q1 = some (kR D 4 16 (fun j b => b = as j)) → Gm q85 = some (kRk D 5 8 k ro) → (∀ j, j < 16 → isAv D Gm (as j)) → (∀ j, j < k → isRv D Gm 236 (ro j)) → (∀ j, j < k → ro j ≠ q17) → gw_fr (fun b => b = a) G Gm → 8 - k < n9 → gw_I D Hs Gm s.heap H locs → lv_has ls 2 [(1, .int y1), (0, .ref a)] → W p l e rm_Gp_init s m args below meth c H locs (91 + 2 * k) (5542 + 1003 * k) (MQ below (gw_Qv D Hs (fun G1 => (∃ A, A 0 0 = a ∧ cls D G1 A (fun j => j) 0 0 (fun _ => 0) (fun _ => 0) (fun _ => 0) (fun _ => 0)) ∧ gw_fr (fun b => b = a) G G1)) args s 107 13566 (gw_A Hs)) (F0 m 123 ls []) := by
          intro n9
          induction n9 with
          | zero =>
            intro k y1 Gm ro H locs ls h8 hk h_a h_fed h_fb h_sent h_sb h_plain h_pb h_gained h_gb h_check h_arr h_places hAs hRo hNe hfG hm hI hl
            exact absurd hm (Nat.not_lt_zero _)
          | succ n9 ih_123 =>
            intro k y1 Gm ro H locs ls h8 hk h_a h_fed h_fb h_sent h_sb h_plain h_pb h_gained h_gb h_check h_arr h_places hAs hRo hNe hfG hm_123 hI hl
            have hfk : gw_fr (fun b => b = q85) Gm Gm := gw_fr.rf
            refine lv_iload_n hx hb d_Gp_init_123 rfl (lv_at hl 0 rfl) ?_
            refine lv_bipush (v := 8) hx hb d_Gp_init_124 (by decide) ?_
            refine lv_icmp_ge (tgt := 151) hx hb d_Gp_init_126 (by decide) (fun c_126 => ?_) (fun c_126 => ?_)
            · have hk8 : k = 8 := Nat.le_antisymm h8 (nb_ge (n := 8) hk c_126 (by decide) (z_31 h8))
              subst hk8
              have hI := hI.soft (K' := (kR D 5 8 (fun j b => b = ro j))) h_places kRk_full
              generalize hE_G356 : gw_up Gm q85 (kR D 5 8 (fun j b => b = ro j)) = G356 at hI
              have hG357 : G356 a = some (kx (.inr (5, [.ref q1, .int 0, .ref q17, .ref q46, .ref q85, .ref q112, .ref q166, .ref q230]))) := by rw [← hE_G356, gw_up_n hn90]; exact h_a
              have hG358 : G356 q17 = some (kx (.inr (3, [.ref q27, .int 0, .int 0]))) := by rw [← hE_G356, gw_up_n hn94]; exact h_fed
              have hG359 : G356 q27 = some (kA D 1 200 tT) := by rw [← hE_G356, gw_up_n hn96]; exact h_fb
              have hG360 : G356 q46 = some (kRo q60 236) := by rw [← hE_G356, gw_up_n hn98]; exact h_sent
              have hG361 : G356 q60 = some (kA D 1 236 tT) := by rw [← hE_G356, gw_up_n hn100]; exact h_sb
              have hG362 : G356 q112 = some (kRo q132 204) := by rw [← hE_G356, gw_up_n hn129.symm]; exact h_plain
              have hG363 : G356 q132 = some (kA D 1 204 tT) := by rw [← hE_G356, gw_up_n hn144.symm]; exact h_pb
              have hG364 : G356 q166 = some (kRo q190 204) := by rw [← hE_G356, gw_up_n hn183.symm]; exact h_gained
              have hG365 : G356 q190 = some (kA D 1 204 tT) := by rw [← hE_G356, gw_up_n hn202.symm]; exact h_gb
              have hG366 : G356 q230 = some kCh := by rw [← hE_G356, gw_up_n hn247.symm]; exact h_check
              have hG367 : G356 q1 = some (kR D 4 16 (fun j b => b = as j)) := by rw [← hE_G356, gw_up_n hn92]; exact h_arr
              have hG368 : G356 q85 = some (kR D 5 8 (fun j b => b = ro j)) := by rw [← hE_G356]; exact gw_up_s
              have hfx : gw_fr (fun b => b = q85) Gm G356 := by rw [← hE_G356]; exact gw_fr.up rfl
              refine W.widen (k := 107) (n := 13566) (Nat.le_of_ble_eq_true rfl) (Nat.le_of_ble_eq_true rfl) ?_
              exact gw_vret M hr hlo hI d_Gp_init_151 ⟨gp_cls hG357 hG367 hG368 hG358 hG359 hG360 hG361 hG362 hG363 hG364 hG365 hG366 (fun j hj => (hAs j hj).mono hfx h_places) (fun j hj => (hRo j hj).mono hfx h_places) hinj hn55 hn121 hn175 hNe, gw_fr.fresh hfG hy101 hfx⟩
            · have hlt : k < 8 := nb_lt (n := 8) hk c_126 (by decide) (z_31 h8)
              refine lv_aload_n hx hb d_Gp_init_129 rfl (lv_at hl 1 rfl) ?_
              refine gw_get M hK hI h_a i_Gp rfl 4 (by decide) f_Gp_31 rfl (Pv := fun v => v = .ref q85) (fun x hx => ⟨_, _, hx, rfl, rfl⟩) d_Gp_init_130 (fun v hv => ?_)
              subst hv
              refine lv_iload_n hx hb d_Gp_init_133 rfl (lv_at hl 0 rfl) ?_
              refine gw_new M hK hI (ci := 3) (fs := [.null, .int 0, .int 0]) i_Ro t_Ro tk_Ro q_Gp_19 j_Ro z_Ro rfl (fun j hj => by rcases (show j = 0 ∨ j = 1 ∨ j = 2 by omega) with rfl | rfl | rfl <;> rfl) (z_c2 hlt) (z_s2 hlt) d_Gp_init_134 (fun q369 H hz370 hI => ?_)
              generalize hE_G371 : gw_up Gm q369 (kx (.inr (3, [.null, .int 0, .int 0]))) = G371 at hI
              have hG372 : G371 q369 = some (kx (.inr (3, [.null, .int 0, .int 0]))) := by rw [← hE_G371]; exact gw_up_s
              have hn374 : a ≠ q369 := fun q9 => by have h9 := h_a; rw [q9, hz370] at h9; cases h9
              have hG373 : G371 a = some (kx (.inr (5, [.ref q1, .int 0, .ref q17, .ref q46, .ref q85, .ref q112, .ref q166, .ref q230]))) := by rw [← hE_G371, gw_up_n hn374]; exact h_a
              have hn376 : q17 ≠ q369 := fun q9 => by have h9 := h_fed; rw [q9, hz370] at h9; cases h9
              have hG375 : G371 q17 = some (kx (.inr (3, [.ref q27, .int 0, .int 0]))) := by rw [← hE_G371, gw_up_n hn376]; exact h_fed
              have hn378 : q27 ≠ q369 := fun q9 => by have h9 := h_fb; rw [q9, hz370] at h9; cases h9
              have hG377 : G371 q27 = some (kA D 1 200 tT) := by rw [← hE_G371, gw_up_n hn378]; exact h_fb
              have hn380 : q46 ≠ q369 := fun q9 => by have h9 := h_sent; rw [q9, hz370] at h9; cases h9
              have hG379 : G371 q46 = some (kRo q60 236) := by rw [← hE_G371, gw_up_n hn380]; exact h_sent
              have hn382 : q60 ≠ q369 := fun q9 => by have h9 := h_sb; rw [q9, hz370] at h9; cases h9
              have hG381 : G371 q60 = some (kA D 1 236 tT) := by rw [← hE_G371, gw_up_n hn382]; exact h_sb
              have hn384 : q112 ≠ q369 := fun q9 => by have h9 := h_plain; rw [q9, hz370] at h9; cases h9
              have hG383 : G371 q112 = some (kRo q132 204) := by rw [← hE_G371, gw_up_n hn384]; exact h_plain
              have hn386 : q132 ≠ q369 := fun q9 => by have h9 := h_pb; rw [q9, hz370] at h9; cases h9
              have hG385 : G371 q132 = some (kA D 1 204 tT) := by rw [← hE_G371, gw_up_n hn386]; exact h_pb
              have hn388 : q166 ≠ q369 := fun q9 => by have h9 := h_gained; rw [q9, hz370] at h9; cases h9
              have hG387 : G371 q166 = some (kRo q190 204) := by rw [← hE_G371, gw_up_n hn388]; exact h_gained
              have hn390 : q190 ≠ q369 := fun q9 => by have h9 := h_gb; rw [q9, hz370] at h9; cases h9
              have hG389 : G371 q190 = some (kA D 1 204 tT) := by rw [← hE_G371, gw_up_n hn390]; exact h_gb
              have hn392 : q230 ≠ q369 := fun q9 => by have h9 := h_check; rw [q9, hz370] at h9; cases h9
              have hG391 : G371 q230 = some kCh := by rw [← hE_G371, gw_up_n hn392]; exact h_check
              have hn394 : q1 ≠ q369 := fun q9 => by have h9 := h_arr; rw [q9, hz370] at h9; cases h9
              have hG393 : G371 q1 = some (kR D 4 16 (fun j b => b = as j)) := by rw [← hE_G371, gw_up_n hn394]; exact h_arr
              have hn396 : q85 ≠ q369 := fun q9 => by have h9 := h_places; rw [q9, hz370] at h9; cases h9
              have hG395 : G371 q85 = some (kRk D 5 8 k ro) := by rw [← hE_G371, gw_up_n hn396]; exact h_places
              have hy397 : Gm q369 = none := by
                cases h9 : Gm q369 with
                | none => rfl
                | some K9 => exact absurd (hfk q369 K9 h9 (fun e9 => hn396 e9.symm)) (by rw [hz370]; exact fun h => by cases h)
              have hf398 : gw_fr (fun b => b = q85) Gm G371 := gw_fr.tr hfk (by rw [← hE_G371]; exact gw_fr.new hz370)
              refine lv_dup hx hb d_Gp_init_137 rfl ?_
              refine lv_sipush (v := 236) hx hb d_Gp_init_138 (by decide) ?_
              refine gw_Iv (As := [.int 236]) (rest := [.ref q369, .int y1, .ref q85]) M hK hI (c_Ro_init l q369 236 (by decide) hG372) k_Ro_init m_Gp_21 rfl hl.1 rfl (Nat.le_of_ble_eq_true rfl) ⟨rfl, rfl, ⟨Nat.le_of_ble_eq_true rfl, Nat.le_of_ble_eq_true rfl⟩, ⟨z_c2b hlt, z_s2b hlt⟩⟩ d_Gp_init_141 (fun G404 H locs hw hI => ?_)
              obtain ⟨q399, hz400, hG401, hG402, hfc403⟩ := hw
              have hn405 : a ≠ q399 := fun q9 => by have h9 := hG373; rw [q9, hz400] at h9; cases h9
              have hn406 : q17 ≠ q399 := fun q9 => by have h9 := hG375; rw [q9, hz400] at h9; cases h9
              have hn407 : q27 ≠ q399 := fun q9 => by have h9 := hG377; rw [q9, hz400] at h9; cases h9
              have hn408 : q46 ≠ q399 := fun q9 => by have h9 := hG379; rw [q9, hz400] at h9; cases h9
              have hn409 : q60 ≠ q399 := fun q9 => by have h9 := hG381; rw [q9, hz400] at h9; cases h9
              have hn410 : q112 ≠ q399 := fun q9 => by have h9 := hG383; rw [q9, hz400] at h9; cases h9
              have hn411 : q132 ≠ q399 := fun q9 => by have h9 := hG385; rw [q9, hz400] at h9; cases h9
              have hn412 : q166 ≠ q399 := fun q9 => by have h9 := hG387; rw [q9, hz400] at h9; cases h9
              have hn413 : q190 ≠ q399 := fun q9 => by have h9 := hG389; rw [q9, hz400] at h9; cases h9
              have hn414 : q230 ≠ q399 := fun q9 => by have h9 := hG391; rw [q9, hz400] at h9; cases h9
              have hn415 : q1 ≠ q399 := fun q9 => by have h9 := hG393; rw [q9, hz400] at h9; cases h9
              have hn416 : q85 ≠ q399 := fun q9 => by have h9 := hG395; rw [q9, hz400] at h9; cases h9
              have hn417 : q369 ≠ q399 := fun q9 => by have h9 := hG372; rw [q9, hz400] at h9; cases h9
              have hG418 : G404 a = some (kx (.inr (5, [.ref q1, .int 0, .ref q17, .ref q46, .ref q85, .ref q112, .ref q166, .ref q230]))) := hfc403 a _ hG373 hn374
              have hG419 : G404 q17 = some (kx (.inr (3, [.ref q27, .int 0, .int 0]))) := hfc403 q17 _ hG375 hn376
              have hG420 : G404 q27 = some (kA D 1 200 tT) := hfc403 q27 _ hG377 hn378
              have hG421 : G404 q46 = some (kRo q60 236) := hfc403 q46 _ hG379 hn380
              have hG422 : G404 q60 = some (kA D 1 236 tT) := hfc403 q60 _ hG381 hn382
              have hG423 : G404 q112 = some (kRo q132 204) := hfc403 q112 _ hG383 hn384
              have hG424 : G404 q132 = some (kA D 1 204 tT) := hfc403 q132 _ hG385 hn386
              have hG425 : G404 q166 = some (kRo q190 204) := hfc403 q166 _ hG387 hn388
              have hG426 : G404 q190 = some (kA D 1 204 tT) := hfc403 q190 _ hG389 hn390
              have hG427 : G404 q230 = some kCh := hfc403 q230 _ hG391 hn392
              have hG428 : G404 q1 = some (kR D 4 16 (fun j b => b = as j)) := hfc403 q1 _ hG393 hn394
              have hG429 : G404 q85 = some (kRk D 5 8 k ro) := hfc403 q85 _ hG395 hn396
              have hy430 : Gm q399 = none := by
                cases h9 : Gm q399 with
                | none => rfl
                | some K9 => exact absurd (hf398 q399 K9 h9 (fun e9 => hn416 e9.symm)) (by rw [hz400]; exact fun h => by cases h)
              have hf431 : gw_fr (fun b => b = q85) Gm G404 := gw_fr.fresh hf398 hy397 hfc403
              have hI := hI.soft (K' := (kRo q399 236)) hG401 (fun e h => ⟨0, 0, ⟨0, Nat.zero_le _, rfl⟩, Or.inl rfl, h⟩)
              generalize hE_G432 : gw_up G404 q369 (kRo q399 236) = G432 at hI
              have hG433 : G432 a = some (kx (.inr (5, [.ref q1, .int 0, .ref q17, .ref q46, .ref q85, .ref q112, .ref q166, .ref q230]))) := by rw [← hE_G432, gw_up_n hn374]; exact hG418
              have hG434 : G432 q17 = some (kx (.inr (3, [.ref q27, .int 0, .int 0]))) := by rw [← hE_G432, gw_up_n hn376]; exact hG419
              have hG435 : G432 q27 = some (kA D 1 200 tT) := by rw [← hE_G432, gw_up_n hn378]; exact hG420
              have hG436 : G432 q46 = some (kRo q60 236) := by rw [← hE_G432, gw_up_n hn380]; exact hG421
              have hG437 : G432 q60 = some (kA D 1 236 tT) := by rw [← hE_G432, gw_up_n hn382]; exact hG422
              have hG438 : G432 q112 = some (kRo q132 204) := by rw [← hE_G432, gw_up_n hn384]; exact hG423
              have hG439 : G432 q132 = some (kA D 1 204 tT) := by rw [← hE_G432, gw_up_n hn386]; exact hG424
              have hG440 : G432 q166 = some (kRo q190 204) := by rw [← hE_G432, gw_up_n hn388]; exact hG425
              have hG441 : G432 q190 = some (kA D 1 204 tT) := by rw [← hE_G432, gw_up_n hn390]; exact hG426
              have hG442 : G432 q230 = some kCh := by rw [← hE_G432, gw_up_n hn392]; exact hG427
              have hG443 : G432 q1 = some (kR D 4 16 (fun j b => b = as j)) := by rw [← hE_G432, gw_up_n hn394]; exact hG428
              have hG444 : G432 q85 = some (kRk D 5 8 k ro) := by rw [← hE_G432, gw_up_n hn396]; exact hG429
              have hG445 : G432 q369 = some (kRo q399 236) := by rw [← hE_G432]; exact gw_up_s
              have hG446 : G432 q399 = some (kA D 1 236 tT) := by rw [← hE_G432, gw_up_n hn417.symm]; exact hG402
              have hf447 : gw_fr (fun b => b = q85) Gm G432 := gw_fr.fresh hf431 hy397 (by rw [← hE_G432]; exact gw_fr.up rfl)
              obtain ⟨-, x9, ⟨f9, hf9, rfl⟩, hat⟩ := hI.1.2.2 q85 _ hG444
              refine gw_aast M hK hI 5 3 rfl rfl hG444 hat hG445 (fun x hx => by obtain ⟨u1, u2, h1, h2, q9⟩ := hx; exact ⟨_, q9⟩) (nb_in hk hlt) (kRk D 5 8 (k + 1) (va_up ro k q369)) ⟨_, kRk_up hf9 hk (z_31b hlt), rfl⟩ d_Gp_init_144 (fun H locs hI => ?_)
              generalize hE_G448 : gw_up G432 q85 (kRk D 5 8 (k + 1) (va_up ro k q369)) = G448 at hI
              have hG449 : G448 a = some (kx (.inr (5, [.ref q1, .int 0, .ref q17, .ref q46, .ref q85, .ref q112, .ref q166, .ref q230]))) := by rw [← hE_G448, gw_up_n hn90]; exact hG433
              have hG450 : G448 q17 = some (kx (.inr (3, [.ref q27, .int 0, .int 0]))) := by rw [← hE_G448, gw_up_n hn94]; exact hG434
              have hG451 : G448 q27 = some (kA D 1 200 tT) := by rw [← hE_G448, gw_up_n hn96]; exact hG435
              have hG452 : G448 q46 = some (kRo q60 236) := by rw [← hE_G448, gw_up_n hn98]; exact hG436
              have hG453 : G448 q60 = some (kA D 1 236 tT) := by rw [← hE_G448, gw_up_n hn100]; exact hG437
              have hG454 : G448 q112 = some (kRo q132 204) := by rw [← hE_G448, gw_up_n hn129.symm]; exact hG438
              have hG455 : G448 q132 = some (kA D 1 204 tT) := by rw [← hE_G448, gw_up_n hn144.symm]; exact hG439
              have hG456 : G448 q166 = some (kRo q190 204) := by rw [← hE_G448, gw_up_n hn183.symm]; exact hG440
              have hG457 : G448 q190 = some (kA D 1 204 tT) := by rw [← hE_G448, gw_up_n hn202.symm]; exact hG441
              have hG458 : G448 q230 = some kCh := by rw [← hE_G448, gw_up_n hn247.symm]; exact hG442
              have hG459 : G448 q1 = some (kR D 4 16 (fun j b => b = as j)) := by rw [← hE_G448, gw_up_n hn92]; exact hG443
              have hG460 : G448 q85 = some (kRk D 5 8 (k + 1) (va_up ro k q369)) := by rw [← hE_G448]; exact gw_up_s
              have hG461 : G448 q369 = some (kRo q399 236) := by rw [← hE_G448, gw_up_n hn396.symm]; exact hG445
              have hG462 : G448 q399 = some (kA D 1 236 tT) := by rw [← hE_G448, gw_up_n hn416.symm]; exact hG446
              have hf463 : gw_fr (fun b => b = q85) Gm G448 := gw_fr.tr hf447 (by rw [← hE_G448]; exact gw_fr.up rfl)
              obtain ⟨x464, e_x464⟩ : ∃ ww9 : Int32, ww9 = y1 + 1 := ⟨_, rfl⟩
              refine lv_iinc (v := x464) (lv' := [(1, .int x464), (0, .ref a)]) hx hb d_Gp_init_145 hl (k := 0) rfl (by rw [e_x464]; rfl) (by decide) rfl (fun ls hl => ?_)
              refine lv_goto (tgt := 123) hx hb d_Gp_init_148 (by decide) ?_
              have hRn465 : ∀ j, j < k + 1 → isRv D G448 236 (va_up ro k q369 j) := by
                intro j hj
                by_cases h9 : j = k
                · subst h9; simp only [va_up, if_true]; exact ⟨q399, hG461, hG462⟩
                · simp only [va_up, h9, if_false]; exact (hRo j (z_j hj h9)).mono hf463 h_places
              have hRm466 : ∀ j, j < k + 1 → va_up ro k q369 j ≠ q17 := by
                intro j hj
                by_cases h9 : j = k
                · subst h9; simp only [va_up, if_true]; exact hn376.symm
                · simp only [va_up, h9, if_false]; exact hNe j (z_j hj h9)
              refine W.widen (k := (91 + 2 * (k + 1))) (n := (5542 + 1003 * (k + 1))) (z_w 91 2 k 1 1 (by decide)) (z_w 5542 1003 k 3 1000 (by decide)) ?_
              exact ih_123 (k + 1) x464 G448 (va_up ro k q369) _ _ _ hlt (nb_s e_x464 hk) hG449 hG450 hG451 hG452 hG453 hG454 hG455 hG456 hG457 hG458 hG459 hG460 (fun j hj => (hAs j hj).mono hf463 h_places) hRn465 hRm466 (gw_fr.fresh hfG hy101 hf463) (z_m hm_123 hlt) hI (lv_sub hl [0, 1] rfl)
        refine W.widen (k := (91 + 2 * 0)) (n := (5542 + 1003 * 0)) (Nat.le_of_ble_eq_true rfl) (Nat.le_of_ble_eq_true rfl) ?_
        exact L_123 _ 0 0 G343 (fun _ => 0) _ _ _ (Nat.zero_le _) rfl hG344 hG345 hG346 hG347 hG348 hG350 hG351 hG352 hG353 hG354 hG355 hG349 hAs (fun j hj => absurd hj (Nat.not_lt_zero _)) (fun j hj => absurd hj (Nat.not_lt_zero _)) hfG (Nat.lt_succ_self _) hI (lv_sub hl [0, 1] rfl)
      · have hlt : k < 16 := nb_lt (n := 16) hk c_99 (by decide) (z_31 h16)
        refine lv_aload_n hx hb d_Gp_init_102 rfl (lv_at hl 1 rfl) ?_
        refine gw_get M hK hI h_a i_Gp rfl 0 (by decide) f_Gp_11 rfl (Pv := fun v => v = .ref q1) (fun x hx => ⟨_, _, hx, rfl, rfl⟩) d_Gp_init_103 (fun v hv => ?_)
        subst hv
        refine lv_iload_n hx hb d_Gp_init_106 rfl (lv_at hl 0 rfl) ?_
        refine gw_new M hK hI (ci := 0) (fs := [.null, .null, .int 0, .int 0, .int 0, .long 0, .long 0, .long 0, .int 0, .long 0, .long 0, .long 0]) i_As t_As tk_As q_Gp_9 j_As z_As rfl (fun j hj => by rcases (show j = 0 ∨ j = 1 ∨ j = 2 ∨ j = 3 ∨ j = 4 ∨ j = 5 ∨ j = 6 ∨ j = 7 ∨ j = 8 ∨ j = 9 ∨ j = 10 ∨ j = 11 by omega) with rfl | rfl | rfl | rfl | rfl | rfl | rfl | rfl | rfl | rfl | rfl | rfl <;> rfl) (z_c1 hlt) (z_s1 hlt) d_Gp_init_107 (fun q467 H hz468 hI => ?_)
        generalize hE_G469 : gw_up Gk q467 (kx (.inr (0, [.null, .null, .int 0, .int 0, .int 0, .long 0, .long 0, .long 0, .int 0, .long 0, .long 0, .long 0]))) = G469 at hI
        have hG470 : G469 q467 = some (kx (.inr (0, [.null, .null, .int 0, .int 0, .int 0, .long 0, .long 0, .long 0, .int 0, .long 0, .long 0, .long 0]))) := by rw [← hE_G469]; exact gw_up_s
        have hn472 : a ≠ q467 := fun q9 => by have h9 := h_a; rw [q9, hz468] at h9; cases h9
        have hG471 : G469 a = some (kx (.inr (5, [.ref q1, .int 0, .ref q17, .ref q46, .ref q85, .ref q112, .ref q166, .ref q230]))) := by rw [← hE_G469, gw_up_n hn472]; exact h_a
        have hn474 : q17 ≠ q467 := fun q9 => by have h9 := h_fed; rw [q9, hz468] at h9; cases h9
        have hG473 : G469 q17 = some (kx (.inr (3, [.ref q27, .int 0, .int 0]))) := by rw [← hE_G469, gw_up_n hn474]; exact h_fed
        have hn476 : q27 ≠ q467 := fun q9 => by have h9 := h_fb; rw [q9, hz468] at h9; cases h9
        have hG475 : G469 q27 = some (kA D 1 200 tT) := by rw [← hE_G469, gw_up_n hn476]; exact h_fb
        have hn478 : q46 ≠ q467 := fun q9 => by have h9 := h_sent; rw [q9, hz468] at h9; cases h9
        have hG477 : G469 q46 = some (kRo q60 236) := by rw [← hE_G469, gw_up_n hn478]; exact h_sent
        have hn480 : q60 ≠ q467 := fun q9 => by have h9 := h_sb; rw [q9, hz468] at h9; cases h9
        have hG479 : G469 q60 = some (kA D 1 236 tT) := by rw [← hE_G469, gw_up_n hn480]; exact h_sb
        have hn482 : q85 ≠ q467 := fun q9 => by have h9 := h_places; rw [q9, hz468] at h9; cases h9
        have hG481 : G469 q85 = some (kRk D 5 8 0 (fun _ => 0)) := by rw [← hE_G469, gw_up_n hn482]; exact h_places
        have hn484 : q112 ≠ q467 := fun q9 => by have h9 := h_plain; rw [q9, hz468] at h9; cases h9
        have hG483 : G469 q112 = some (kRo q132 204) := by rw [← hE_G469, gw_up_n hn484]; exact h_plain
        have hn486 : q132 ≠ q467 := fun q9 => by have h9 := h_pb; rw [q9, hz468] at h9; cases h9
        have hG485 : G469 q132 = some (kA D 1 204 tT) := by rw [← hE_G469, gw_up_n hn486]; exact h_pb
        have hn488 : q166 ≠ q467 := fun q9 => by have h9 := h_gained; rw [q9, hz468] at h9; cases h9
        have hG487 : G469 q166 = some (kRo q190 204) := by rw [← hE_G469, gw_up_n hn488]; exact h_gained
        have hn490 : q190 ≠ q467 := fun q9 => by have h9 := h_gb; rw [q9, hz468] at h9; cases h9
        have hG489 : G469 q190 = some (kA D 1 204 tT) := by rw [← hE_G469, gw_up_n hn490]; exact h_gb
        have hn492 : q230 ≠ q467 := fun q9 => by have h9 := h_check; rw [q9, hz468] at h9; cases h9
        have hG491 : G469 q230 = some kCh := by rw [← hE_G469, gw_up_n hn492]; exact h_check
        have hn494 : q1 ≠ q467 := fun q9 => by have h9 := h_arr; rw [q9, hz468] at h9; cases h9
        have hG493 : G469 q1 = some (kRk D 4 16 k as) := by rw [← hE_G469, gw_up_n hn494]; exact h_arr
        have hy495 : Gk q467 = none := by
          cases h9 : Gk q467 with
          | none => rfl
          | some K9 => exact absurd (hfk q467 K9 h9 (fun e9 => hn494 e9.symm)) (by rw [hz468]; exact fun h => by cases h)
        have hf496 : gw_fr (fun b => b = q1) Gk G469 := gw_fr.tr hfk (by rw [← hE_G469]; exact gw_fr.new hz468)
        refine lv_dup hx hb d_Gp_init_110 rfl ?_
        refine gw_Nv (As := []) (rest := [.ref q467, .int y1, .ref q1]) M hK hI (c_As_init l q467 hG470) k_As_init hK.2.2.2.2.1 rfl hl.1 rfl (Nat.le_of_ble_eq_true rfl) ⟨rfl, rfl, ⟨Nat.le_of_ble_eq_true rfl, Nat.le_of_ble_eq_true rfl⟩, ⟨z_c1b hlt, z_s1b hlt⟩⟩ d_Gp_init_111 (fun G511 H locs hw hI => ?_)
        obtain ⟨q497, q498, q499, q500, hz501, hz502, hz503, hz504, hG505, hG506, hG507, hG508, hG509, hfc510⟩ := hw
        have hn512 : a ≠ q497 := fun q9 => by have h9 := hG471; rw [q9, hz501] at h9; cases h9
        have hn513 : q17 ≠ q497 := fun q9 => by have h9 := hG473; rw [q9, hz501] at h9; cases h9
        have hn514 : q27 ≠ q497 := fun q9 => by have h9 := hG475; rw [q9, hz501] at h9; cases h9
        have hn515 : q46 ≠ q497 := fun q9 => by have h9 := hG477; rw [q9, hz501] at h9; cases h9
        have hn516 : q60 ≠ q497 := fun q9 => by have h9 := hG479; rw [q9, hz501] at h9; cases h9
        have hn517 : q85 ≠ q497 := fun q9 => by have h9 := hG481; rw [q9, hz501] at h9; cases h9
        have hn518 : q112 ≠ q497 := fun q9 => by have h9 := hG483; rw [q9, hz501] at h9; cases h9
        have hn519 : q132 ≠ q497 := fun q9 => by have h9 := hG485; rw [q9, hz501] at h9; cases h9
        have hn520 : q166 ≠ q497 := fun q9 => by have h9 := hG487; rw [q9, hz501] at h9; cases h9
        have hn521 : q190 ≠ q497 := fun q9 => by have h9 := hG489; rw [q9, hz501] at h9; cases h9
        have hn522 : q230 ≠ q497 := fun q9 => by have h9 := hG491; rw [q9, hz501] at h9; cases h9
        have hn523 : q1 ≠ q497 := fun q9 => by have h9 := hG493; rw [q9, hz501] at h9; cases h9
        have hn524 : q467 ≠ q497 := fun q9 => by have h9 := hG470; rw [q9, hz501] at h9; cases h9
        have hn525 : a ≠ q498 := fun q9 => by have h9 := hG471; rw [q9, hz502] at h9; cases h9
        have hn526 : q17 ≠ q498 := fun q9 => by have h9 := hG473; rw [q9, hz502] at h9; cases h9
        have hn527 : q27 ≠ q498 := fun q9 => by have h9 := hG475; rw [q9, hz502] at h9; cases h9
        have hn528 : q46 ≠ q498 := fun q9 => by have h9 := hG477; rw [q9, hz502] at h9; cases h9
        have hn529 : q60 ≠ q498 := fun q9 => by have h9 := hG479; rw [q9, hz502] at h9; cases h9
        have hn530 : q85 ≠ q498 := fun q9 => by have h9 := hG481; rw [q9, hz502] at h9; cases h9
        have hn531 : q112 ≠ q498 := fun q9 => by have h9 := hG483; rw [q9, hz502] at h9; cases h9
        have hn532 : q132 ≠ q498 := fun q9 => by have h9 := hG485; rw [q9, hz502] at h9; cases h9
        have hn533 : q166 ≠ q498 := fun q9 => by have h9 := hG487; rw [q9, hz502] at h9; cases h9
        have hn534 : q190 ≠ q498 := fun q9 => by have h9 := hG489; rw [q9, hz502] at h9; cases h9
        have hn535 : q230 ≠ q498 := fun q9 => by have h9 := hG491; rw [q9, hz502] at h9; cases h9
        have hn536 : q1 ≠ q498 := fun q9 => by have h9 := hG493; rw [q9, hz502] at h9; cases h9
        have hn537 : q467 ≠ q498 := fun q9 => by have h9 := hG470; rw [q9, hz502] at h9; cases h9
        have hn538 : a ≠ q499 := fun q9 => by have h9 := hG471; rw [q9, hz503] at h9; cases h9
        have hn539 : q17 ≠ q499 := fun q9 => by have h9 := hG473; rw [q9, hz503] at h9; cases h9
        have hn540 : q27 ≠ q499 := fun q9 => by have h9 := hG475; rw [q9, hz503] at h9; cases h9
        have hn541 : q46 ≠ q499 := fun q9 => by have h9 := hG477; rw [q9, hz503] at h9; cases h9
        have hn542 : q60 ≠ q499 := fun q9 => by have h9 := hG479; rw [q9, hz503] at h9; cases h9
        have hn543 : q85 ≠ q499 := fun q9 => by have h9 := hG481; rw [q9, hz503] at h9; cases h9
        have hn544 : q112 ≠ q499 := fun q9 => by have h9 := hG483; rw [q9, hz503] at h9; cases h9
        have hn545 : q132 ≠ q499 := fun q9 => by have h9 := hG485; rw [q9, hz503] at h9; cases h9
        have hn546 : q166 ≠ q499 := fun q9 => by have h9 := hG487; rw [q9, hz503] at h9; cases h9
        have hn547 : q190 ≠ q499 := fun q9 => by have h9 := hG489; rw [q9, hz503] at h9; cases h9
        have hn548 : q230 ≠ q499 := fun q9 => by have h9 := hG491; rw [q9, hz503] at h9; cases h9
        have hn549 : q1 ≠ q499 := fun q9 => by have h9 := hG493; rw [q9, hz503] at h9; cases h9
        have hn550 : q467 ≠ q499 := fun q9 => by have h9 := hG470; rw [q9, hz503] at h9; cases h9
        have hn551 : a ≠ q500 := fun q9 => by have h9 := hG471; rw [q9, hz504] at h9; cases h9
        have hn552 : q17 ≠ q500 := fun q9 => by have h9 := hG473; rw [q9, hz504] at h9; cases h9
        have hn553 : q27 ≠ q500 := fun q9 => by have h9 := hG475; rw [q9, hz504] at h9; cases h9
        have hn554 : q46 ≠ q500 := fun q9 => by have h9 := hG477; rw [q9, hz504] at h9; cases h9
        have hn555 : q60 ≠ q500 := fun q9 => by have h9 := hG479; rw [q9, hz504] at h9; cases h9
        have hn556 : q85 ≠ q500 := fun q9 => by have h9 := hG481; rw [q9, hz504] at h9; cases h9
        have hn557 : q112 ≠ q500 := fun q9 => by have h9 := hG483; rw [q9, hz504] at h9; cases h9
        have hn558 : q132 ≠ q500 := fun q9 => by have h9 := hG485; rw [q9, hz504] at h9; cases h9
        have hn559 : q166 ≠ q500 := fun q9 => by have h9 := hG487; rw [q9, hz504] at h9; cases h9
        have hn560 : q190 ≠ q500 := fun q9 => by have h9 := hG489; rw [q9, hz504] at h9; cases h9
        have hn561 : q230 ≠ q500 := fun q9 => by have h9 := hG491; rw [q9, hz504] at h9; cases h9
        have hn562 : q1 ≠ q500 := fun q9 => by have h9 := hG493; rw [q9, hz504] at h9; cases h9
        have hn563 : q467 ≠ q500 := fun q9 => by have h9 := hG470; rw [q9, hz504] at h9; cases h9
        have hG564 : G511 a = some (kx (.inr (5, [.ref q1, .int 0, .ref q17, .ref q46, .ref q85, .ref q112, .ref q166, .ref q230]))) := hfc510 a _ hG471 hn472
        have hG565 : G511 q17 = some (kx (.inr (3, [.ref q27, .int 0, .int 0]))) := hfc510 q17 _ hG473 hn474
        have hG566 : G511 q27 = some (kA D 1 200 tT) := hfc510 q27 _ hG475 hn476
        have hG567 : G511 q46 = some (kRo q60 236) := hfc510 q46 _ hG477 hn478
        have hG568 : G511 q60 = some (kA D 1 236 tT) := hfc510 q60 _ hG479 hn480
        have hG569 : G511 q85 = some (kRk D 5 8 0 (fun _ => 0)) := hfc510 q85 _ hG481 hn482
        have hG570 : G511 q112 = some (kRo q132 204) := hfc510 q112 _ hG483 hn484
        have hG571 : G511 q132 = some (kA D 1 204 tT) := hfc510 q132 _ hG485 hn486
        have hG572 : G511 q166 = some (kRo q190 204) := hfc510 q166 _ hG487 hn488
        have hG573 : G511 q190 = some (kA D 1 204 tT) := hfc510 q190 _ hG489 hn490
        have hG574 : G511 q230 = some kCh := hfc510 q230 _ hG491 hn492
        have hG575 : G511 q1 = some (kRk D 4 16 k as) := hfc510 q1 _ hG493 hn494
        have hy576 : Gk q497 = none := by
          cases h9 : Gk q497 with
          | none => rfl
          | some K9 => exact absurd (hf496 q497 K9 h9 (fun e9 => hn523 e9.symm)) (by rw [hz501]; exact fun h => by cases h)
        have hy577 : Gk q498 = none := by
          cases h9 : Gk q498 with
          | none => rfl
          | some K9 => exact absurd (hf496 q498 K9 h9 (fun e9 => hn536 e9.symm)) (by rw [hz502]; exact fun h => by cases h)
        have hy578 : Gk q499 = none := by
          cases h9 : Gk q499 with
          | none => rfl
          | some K9 => exact absurd (hf496 q499 K9 h9 (fun e9 => hn549 e9.symm)) (by rw [hz503]; exact fun h => by cases h)
        have hy579 : Gk q500 = none := by
          cases h9 : Gk q500 with
          | none => rfl
          | some K9 => exact absurd (hf496 q500 K9 h9 (fun e9 => hn562 e9.symm)) (by rw [hz504]; exact fun h => by cases h)
        have hf580 : gw_fr (fun b => b = q1) Gk G511 := gw_fr.fresh hf496 hy495 hfc510
        have hn581 : q497 ≠ q498 := gw_ne (x := (.inr (2, [.ref q498, .long 0, .long 0]))) hG506 hG507 rfl (fun q => by obtain ⟨f, -, q⟩ := q; cases q)
        have hn582 : q497 ≠ q499 := gw_ne (x := (.inr (2, [.ref q498, .long 0, .long 0]))) hG506 hG508 rfl (fun q => by cases q)
        have hn583 : q497 ≠ q500 := gw_ne (x := (.inr (2, [.ref q498, .long 0, .long 0]))) hG506 hG509 rfl (fun q => by obtain ⟨f, -, q⟩ := q; cases q)
        have hn584 : q498 ≠ q499 := gw_ne (x := (.inl (D.2 0, 44, .inl (fun _ => 0)))) hG507 hG508 ⟨_, fun _ _ => trivial, rfl⟩ (fun q => by cases q)
        have hn585 : q498 ≠ q500 := gw_ne (x := (.inl (D.2 0, 44, .inl (fun _ => 0)))) hG507 hG509 ⟨_, fun _ _ => trivial, rfl⟩ (fun q => by obtain ⟨f, -, q⟩ := q; have h9 := congrArg (fun z => z.2.1) (Sum.inl.inj q); cases h9)
        have hn586 : q499 ≠ q500 := gw_ne (x := (.inr (4, [.ref q500, .int 1024, .long 0]))) hG508 hG509 rfl (fun q => by obtain ⟨f, -, q⟩ := q; cases q)
        have hI := hI.soft (K' := (kAp q497 q499 (0 : Int32) (0 : Int32) (0 : Int64) (0 : Int32))) hG505 (fun e h => ⟨0, 0, 0, 0, 0, 0, h⟩)
        generalize hE_G587 : gw_up G511 q467 (kAp q497 q499 (0 : Int32) (0 : Int32) (0 : Int64) (0 : Int32)) = G587 at hI
        have hG588 : G587 a = some (kx (.inr (5, [.ref q1, .int 0, .ref q17, .ref q46, .ref q85, .ref q112, .ref q166, .ref q230]))) := by rw [← hE_G587, gw_up_n hn472]; exact hG564
        have hG589 : G587 q17 = some (kx (.inr (3, [.ref q27, .int 0, .int 0]))) := by rw [← hE_G587, gw_up_n hn474]; exact hG565
        have hG590 : G587 q27 = some (kA D 1 200 tT) := by rw [← hE_G587, gw_up_n hn476]; exact hG566
        have hG591 : G587 q46 = some (kRo q60 236) := by rw [← hE_G587, gw_up_n hn478]; exact hG567
        have hG592 : G587 q60 = some (kA D 1 236 tT) := by rw [← hE_G587, gw_up_n hn480]; exact hG568
        have hG593 : G587 q85 = some (kRk D 5 8 0 (fun _ => 0)) := by rw [← hE_G587, gw_up_n hn482]; exact hG569
        have hG594 : G587 q112 = some (kRo q132 204) := by rw [← hE_G587, gw_up_n hn484]; exact hG570
        have hG595 : G587 q132 = some (kA D 1 204 tT) := by rw [← hE_G587, gw_up_n hn486]; exact hG571
        have hG596 : G587 q166 = some (kRo q190 204) := by rw [← hE_G587, gw_up_n hn488]; exact hG572
        have hG597 : G587 q190 = some (kA D 1 204 tT) := by rw [← hE_G587, gw_up_n hn490]; exact hG573
        have hG598 : G587 q230 = some kCh := by rw [← hE_G587, gw_up_n hn492]; exact hG574
        have hG599 : G587 q1 = some (kRk D 4 16 k as) := by rw [← hE_G587, gw_up_n hn494]; exact hG575
        have hG600 : G587 q467 = some (kAp q497 q499 (0 : Int32) (0 : Int32) (0 : Int64) (0 : Int32)) := by rw [← hE_G587]; exact gw_up_s
        have hG601 : G587 q497 = some (kx (.inr (2, [.ref q498, .long 0, .long 0]))) := by rw [← hE_G587, gw_up_n hn524.symm]; exact hG506
        have hG602 : G587 q498 = some (kA D 0 44 tT) := by rw [← hE_G587, gw_up_n hn537.symm]; exact hG507
        have hG603 : G587 q499 = some (kx (.inr (4, [.ref q500, .int 1024, .long 0]))) := by rw [← hE_G587, gw_up_n hn550.symm]; exact hG508
        have hG604 : G587 q500 = some (kA D 0 32 tT) := by rw [← hE_G587, gw_up_n hn563.symm]; exact hG509
        have hf605 : gw_fr (fun b => b = q1) Gk G587 := gw_fr.fresh hf580 hy495 (by rw [← hE_G587]; exact gw_fr.up rfl)
        have hI := hI.soft (K' := (kCi q498)) hG601 (fun e h => ⟨0, 0, h⟩)
        generalize hE_G606 : gw_up G587 q497 (kCi q498) = G606 at hI
        have hG607 : G606 a = some (kx (.inr (5, [.ref q1, .int 0, .ref q17, .ref q46, .ref q85, .ref q112, .ref q166, .ref q230]))) := by rw [← hE_G606, gw_up_n hn512]; exact hG588
        have hG608 : G606 q17 = some (kx (.inr (3, [.ref q27, .int 0, .int 0]))) := by rw [← hE_G606, gw_up_n hn513]; exact hG589
        have hG609 : G606 q27 = some (kA D 1 200 tT) := by rw [← hE_G606, gw_up_n hn514]; exact hG590
        have hG610 : G606 q46 = some (kRo q60 236) := by rw [← hE_G606, gw_up_n hn515]; exact hG591
        have hG611 : G606 q60 = some (kA D 1 236 tT) := by rw [← hE_G606, gw_up_n hn516]; exact hG592
        have hG612 : G606 q85 = some (kRk D 5 8 0 (fun _ => 0)) := by rw [← hE_G606, gw_up_n hn517]; exact hG593
        have hG613 : G606 q112 = some (kRo q132 204) := by rw [← hE_G606, gw_up_n hn518]; exact hG594
        have hG614 : G606 q132 = some (kA D 1 204 tT) := by rw [← hE_G606, gw_up_n hn519]; exact hG595
        have hG615 : G606 q166 = some (kRo q190 204) := by rw [← hE_G606, gw_up_n hn520]; exact hG596
        have hG616 : G606 q190 = some (kA D 1 204 tT) := by rw [← hE_G606, gw_up_n hn521]; exact hG597
        have hG617 : G606 q230 = some kCh := by rw [← hE_G606, gw_up_n hn522]; exact hG598
        have hG618 : G606 q1 = some (kRk D 4 16 k as) := by rw [← hE_G606, gw_up_n hn523]; exact hG599
        have hG619 : G606 q467 = some (kAp q497 q499 (0 : Int32) (0 : Int32) (0 : Int64) (0 : Int32)) := by rw [← hE_G606, gw_up_n hn524]; exact hG600
        have hG620 : G606 q497 = some (kCi q498) := by rw [← hE_G606]; exact gw_up_s
        have hG621 : G606 q498 = some (kA D 0 44 tT) := by rw [← hE_G606, gw_up_n hn581.symm]; exact hG602
        have hG622 : G606 q499 = some (kx (.inr (4, [.ref q500, .int 1024, .long 0]))) := by rw [← hE_G606, gw_up_n hn582.symm]; exact hG603
        have hG623 : G606 q500 = some (kA D 0 32 tT) := by rw [← hE_G606, gw_up_n hn583.symm]; exact hG604
        have hf624 : gw_fr (fun b => b = q1) Gk G606 := gw_fr.fresh hf605 hy576 (by rw [← hE_G606]; exact gw_fr.up rfl)
        have hI := hI.soft (K' := (kWj q500)) hG622 (fun e h => ⟨1024, 0, ⟨by decide, by decide⟩, by decide, h⟩)
        generalize hE_G625 : gw_up G606 q499 (kWj q500) = G625 at hI
        have hG626 : G625 a = some (kx (.inr (5, [.ref q1, .int 0, .ref q17, .ref q46, .ref q85, .ref q112, .ref q166, .ref q230]))) := by rw [← hE_G625, gw_up_n hn538]; exact hG607
        have hG627 : G625 q17 = some (kx (.inr (3, [.ref q27, .int 0, .int 0]))) := by rw [← hE_G625, gw_up_n hn539]; exact hG608
        have hG628 : G625 q27 = some (kA D 1 200 tT) := by rw [← hE_G625, gw_up_n hn540]; exact hG609
        have hG629 : G625 q46 = some (kRo q60 236) := by rw [← hE_G625, gw_up_n hn541]; exact hG610
        have hG630 : G625 q60 = some (kA D 1 236 tT) := by rw [← hE_G625, gw_up_n hn542]; exact hG611
        have hG631 : G625 q85 = some (kRk D 5 8 0 (fun _ => 0)) := by rw [← hE_G625, gw_up_n hn543]; exact hG612
        have hG632 : G625 q112 = some (kRo q132 204) := by rw [← hE_G625, gw_up_n hn544]; exact hG613
        have hG633 : G625 q132 = some (kA D 1 204 tT) := by rw [← hE_G625, gw_up_n hn545]; exact hG614
        have hG634 : G625 q166 = some (kRo q190 204) := by rw [← hE_G625, gw_up_n hn546]; exact hG615
        have hG635 : G625 q190 = some (kA D 1 204 tT) := by rw [← hE_G625, gw_up_n hn547]; exact hG616
        have hG636 : G625 q230 = some kCh := by rw [← hE_G625, gw_up_n hn548]; exact hG617
        have hG637 : G625 q1 = some (kRk D 4 16 k as) := by rw [← hE_G625, gw_up_n hn549]; exact hG618
        have hG638 : G625 q467 = some (kAp q497 q499 (0 : Int32) (0 : Int32) (0 : Int64) (0 : Int32)) := by rw [← hE_G625, gw_up_n hn550]; exact hG619
        have hG639 : G625 q497 = some (kCi q498) := by rw [← hE_G625, gw_up_n hn582]; exact hG620
        have hG640 : G625 q498 = some (kA D 0 44 tT) := by rw [← hE_G625, gw_up_n hn584]; exact hG621
        have hG641 : G625 q499 = some (kWj q500) := by rw [← hE_G625]; exact gw_up_s
        have hG642 : G625 q500 = some (kA D 0 32 tT) := by rw [← hE_G625, gw_up_n hn586.symm]; exact hG623
        have hf643 : gw_fr (fun b => b = q1) Gk G625 := gw_fr.fresh hf624 hy578 (by rw [← hE_G625]; exact gw_fr.up rfl)
        obtain ⟨-, x9, ⟨f9, hf9, rfl⟩, hat⟩ := hI.1.2.2 q1 _ hG637
        refine gw_aast M hK hI 4 0 rfl rfl hG637 hat hG638 (fun x hx => by obtain ⟨u3, u5, u6, u9, v1, v2, q9⟩ := hx; exact ⟨_, q9⟩) (nb_in hk hlt) (kRk D 4 16 (k + 1) (va_up as k q467)) ⟨_, kRk_up hf9 hk (z_31b hlt), rfl⟩ d_Gp_init_114 (fun H locs hI => ?_)
        generalize hE_G644 : gw_up G625 q1 (kRk D 4 16 (k + 1) (va_up as k q467)) = G644 at hI
        have hG645 : G644 a = some (kx (.inr (5, [.ref q1, .int 0, .ref q17, .ref q46, .ref q85, .ref q112, .ref q166, .ref q230]))) := by rw [← hE_G644, gw_up_n hn6]; exact hG626
        have hG646 : G644 q17 = some (kx (.inr (3, [.ref q27, .int 0, .int 0]))) := by rw [← hE_G644, gw_up_n hn24.symm]; exact hG627
        have hG647 : G644 q27 = some (kA D 1 200 tT) := by rw [← hE_G644, gw_up_n hn34.symm]; exact hG628
        have hG648 : G644 q46 = some (kRo q60 236) := by rw [← hE_G644, gw_up_n hn53.symm]; exact hG629
        have hG649 : G644 q60 = some (kA D 1 236 tT) := by rw [← hE_G644, gw_up_n hn67.symm]; exact hG630
        have hG650 : G644 q85 = some (kRk D 5 8 0 (fun _ => 0)) := by rw [← hE_G644, gw_up_n hn92.symm]; exact hG631
        have hG651 : G644 q112 = some (kRo q132 204) := by rw [← hE_G644, gw_up_n hn119.symm]; exact hG632
        have hG652 : G644 q132 = some (kA D 1 204 tT) := by rw [← hE_G644, gw_up_n hn139.symm]; exact hG633
        have hG653 : G644 q166 = some (kRo q190 204) := by rw [← hE_G644, gw_up_n hn173.symm]; exact hG634
        have hG654 : G644 q190 = some (kA D 1 204 tT) := by rw [← hE_G644, gw_up_n hn197.symm]; exact hG635
        have hG655 : G644 q230 = some kCh := by rw [← hE_G644, gw_up_n hn237.symm]; exact hG636
        have hG656 : G644 q1 = some (kRk D 4 16 (k + 1) (va_up as k q467)) := by rw [← hE_G644]; exact gw_up_s
        have hG657 : G644 q467 = some (kAp q497 q499 (0 : Int32) (0 : Int32) (0 : Int64) (0 : Int32)) := by rw [← hE_G644, gw_up_n hn494.symm]; exact hG638
        have hG658 : G644 q497 = some (kCi q498) := by rw [← hE_G644, gw_up_n hn523.symm]; exact hG639
        have hG659 : G644 q498 = some (kA D 0 44 tT) := by rw [← hE_G644, gw_up_n hn536.symm]; exact hG640
        have hG660 : G644 q499 = some (kWj q500) := by rw [← hE_G644, gw_up_n hn549.symm]; exact hG641
        have hG661 : G644 q500 = some (kA D 0 32 tT) := by rw [← hE_G644, gw_up_n hn562.symm]; exact hG642
        have hf662 : gw_fr (fun b => b = q1) Gk G644 := gw_fr.tr hf643 (by rw [← hE_G644]; exact gw_fr.up rfl)
        obtain ⟨x663, e_x663⟩ : ∃ ww9 : Int32, ww9 = y1 + 1 := ⟨_, rfl⟩
        refine lv_iinc (v := x663) (lv' := [(1, .int x663), (0, .ref a)]) hx hb d_Gp_init_115 hl (k := 0) rfl (by rw [e_x663]; rfl) (by decide) rfl (fun ls hl => ?_)
        refine lv_goto (tgt := 96) hx hb d_Gp_init_118 (by decide) ?_
        have hAn664 : ∀ j, j < k + 1 → isAv D G644 (va_up as k q467 j) := by
          intro j hj
          by_cases h9 : j = k
          · subst h9; simp only [va_up, if_true]; exact ⟨q497, q498, q499, q500, hG657, hG658, hG659, hG660, hG661⟩
          · simp only [va_up, h9, if_false]; exact (hAs j (z_j hj h9)).mono hf662 h_arr
        refine W.widen (k := (11 + 5 * (k + 1))) (n := (4038 + 94 * (k + 1))) (z_w 11 5 k 1 4 (by decide)) (z_w 4038 94 k 12 82 (by decide)) ?_
        exact ih_96 (k + 1) x663 G644 (va_up as k q467) _ _ _ hlt (nb_s e_x663 hk) hG645 hG646 hG647 hG648 hG649 hG650 hG651 hG652 hG653 hG654 hG655 hG656 hAn664 (inj_up hinj (fun j hj => (hAs j hj).ne hy495)) (gw_fr.fresh hfG hy7 hf662) (z_m hm_96 hlt) hI (lv_sub hl [0, 1] rfl)
  refine W.widen (k := (11 + 5 * 0)) (n := (4038 + 94 * 0)) (Nat.le_of_ble_eq_true rfl) (Nat.le_of_ble_eq_true rfl) ?_
  exact L_96 _ 0 0 G329 (fun _ => 0) _ _ _ (Nat.zero_le _) rfl hG330 hG332 hG333 hG334 hG335 hG336 hG337 hG338 hG339 hG340 hG341 hG331 (fun j hj => absurd hj (Nat.not_lt_zero _)) (fun i j hi => absurd hi (Nat.not_lt_zero _)) hf342 (Nat.lt_succ_self _) hI (lv_sub hl [0, 1] rfl)
