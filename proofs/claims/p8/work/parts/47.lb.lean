theorem k_La_add : gk_W y_La_add b_La_add 11 (some .int) [(0, 26, 29, 13)] 8 := ⟨tb_2 121 rfl rfl, tb_1 0 rfl rfl, tb_2 122 rfl rfl, ⟨by decide +kernel, by decide +kernel⟩, by decide +kernel⟩
theorem k_La_hurry : gk_W y_La_hurry b_La_hurry 5 (some .int) [(0, 6, 9, 19), (0, 6, 13, 13)] 3 := ⟨tb_2 212 rfl rfl, tb_1 0 rfl rfl, tb_2 213 rfl rfl, ⟨by decide +kernel, by decide +kernel⟩, by decide +kernel⟩
theorem k_La_life : gk_W y_La_life b_La_life 5 (some .int) [(0, 10, 13, 19), (0, 10, 17, 13)] 4 := ⟨tb_3 0 rfl rfl, tb_1 0 rfl rfl, tb_3 1 rfl rfl, ⟨by decide +kernel, by decide +kernel⟩, by decide +kernel⟩
theorem k_La_feed : gk_W y_La_feed b_La_feed 6 (some .int) [(0, 11, 14, 13)] 4 := ⟨tb_3 7 rfl rfl, tb_1 0 rfl rfl, tb_3 8 rfl rfl, ⟨by decide +kernel, by decide +kernel⟩, by decide +kernel⟩
theorem k_La_seal : gk_W y_La_seal b_La_seal 5 (some .int) [(0, 10, 13, 19), (0, 10, 17, 13)] 4 := ⟨tb_3 15 rfl rfl, tb_1 0 rfl rfl, tb_3 16 rfl rfl, ⟨by decide +kernel, by decide +kernel⟩, by decide +kernel⟩
theorem k_La_spoil : gk_W y_La_spoil b_La_spoil 5 (some .int) [(0, 10, 13, 35), (0, 10, 17, 13)] 4 := ⟨tb_3 33 rfl rfl, tb_1 0 rfl rfl, tb_3 34 rfl rfl, ⟨by decide +kernel, by decide +kernel⟩, by decide +kernel⟩
theorem k_La_cut : gk_W y_La_cut b_La_cut 3 (some .int) [(0, 5, 8, 13)] 2 := ⟨tb_3 57 rfl rfl, tb_1 0 rfl rfl, tb_3 58 rfl rfl, ⟨by decide +kernel, by decide +kernel⟩, by decide +kernel⟩
theorem k_La_keep : gk_W y_La_keep b_La_keep 3 (some .int) [(0, 5, 8, 35)] 2 := ⟨tb_3 64 rfl rfl, tb_1 0 rfl rfl, tb_3 65 rfl rfl, ⟨by decide +kernel, by decide +kernel⟩, by decide +kernel⟩
theorem k_La_bring : gk_W y_La_bring b_La_bring 4 (some .int) [(0, 9, 12, 35)] 3 := ⟨tb_3 79 rfl rfl, tb_1 0 rfl rfl, tb_3 80 rfl rfl, ⟨by decide +kernel, by decide +kernel⟩, by decide +kernel⟩
theorem k_La_told : gk_W y_La_told b_La_told 5 (some .int) [(0, 9, 12, 19), (0, 9, 16, 13)] 4 := ⟨tb_3 86 rfl rfl, tb_1 0 rfl rfl, tb_3 87 rfl rfl, ⟨by decide +kernel, by decide +kernel⟩, by decide +kernel⟩
theorem k_La_given : gk_W y_La_given b_La_given 5 (some .int) [(0, 9, 12, 19), (0, 9, 16, 13)] 4 := ⟨tb_3 93 rfl rfl, tb_1 0 rfl rfl, tb_3 94 rfl rfl, ⟨by decide +kernel, by decide +kernel⟩, by decide +kernel⟩
/-- the class's own cells -/
def inA (k i : Nat) : Prop := (k < 12 ∧ i = 0) ∨ (12 ≤ k ∧ k < 17 ∧ i < 16) ∨ (17 ≤ k ∧ k < 19 ∧ i < 8)
section LB
variable {D : gw_D} {G G1 : gw_G} {A : Nat → Nat → Nat} {pm : Nat → Nat} {cnt fd : Nat} {tt xt li : Nat → Int32} {la : Nat → Int64} {Hs H0 H : Heap} {locs : List Loc}
theorem iA0 {k : Nat} (h : k < 12) : inA k 0 := Or.inl ⟨h, rfl⟩
theorem iA1 {k i : Nat} (h : 12 ≤ k) (h2 : k < 17) (hi : i < 16) : inA k i := Or.inr (Or.inl ⟨h, h2, hi⟩)
theorem iA2 {k i : Nat} (h : 17 ≤ k) (h2 : k < 19) (hi : i < 8) : inA k i := Or.inr (Or.inr ⟨h, h2, hi⟩)
theorem cls.fr {X : Nat → Prop} (h : cls D G A pm cnt fd tt xt li la) (hf : gw_fr X G G1) (hx : ∀ k i, inA k i → ¬ X (A k i)) : cls D G1 A pm cnt fd tt xt li la :=
  ⟨⟨hf _ _ h.O (hx 0 0 (iA0 (by decide))), hf _ _ h.arr (hx 1 0 (iA0 (by decide))), hf _ _ h.fed (hx 2 0 (iA0 (by decide)))⟩, fun i hi => ⟨hf _ _ (h.as hi) (hx 12 i (iA1 (by decide) (by decide) hi)), hf _ _ (h.ci hi) (hx 13 i (iA1 (by decide) (by decide) hi)), hf _ _ (h.wo hi) (hx 14 i (iA1 (by decide) (by decide) hi)), hf _ _ (h.wi hi) (hx 15 i (iA1 (by decide) (by decide) hi)), hf _ _ (h.bi hi) (hx 16 i (iA1 (by decide) (by decide) hi))⟩,
   ⟨⟨hf _ _ h.pla (hx 4 0 (iA0 (by decide))), hf _ _ h.sent (hx 3 0 (iA0 (by decide))), hf _ _ h.sq (hx 9 0 (iA0 (by decide))), hf _ _ h.plain (hx 5 0 (iA0 (by decide))), hf _ _ h.pq (hx 10 0 (iA0 (by decide))), hf _ _ h.gain (hx 6 0 (iA0 (by decide))), hf _ _ h.gq (hx 11 0 (iA0 (by decide))), hf _ _ h.check (hx 7 0 (iA0 (by decide))), hf _ _ h.fq (hx 8 0 (iA0 (by decide)))⟩, fun j hj => ⟨hf _ _ (h.ro hj) (hx 17 j (iA2 (by decide) (by decide) hj)), hf _ _ (h.rq hj) (hx 18 j (iA2 (by decide) (by decide) hj))⟩⟩, h.ap, h.p⟩
/-- every cell of the class has a kind -/
theorem cls.has (h : cls D G A pm cnt fd tt xt li la) {k i : Nat} (hk : inA k i) : ∃ K, G (A k i) = some K := by
  rcases hk with ⟨hk, rfl⟩ | ⟨h1, h2, hi⟩ | ⟨h1, h2, hi⟩
  · match k, hk with
    | 0, _ => exact ⟨_, h.O⟩
    | 1, _ => exact ⟨_, h.arr⟩
    | 2, _ => exact ⟨_, h.fed⟩
    | 3, _ => exact ⟨_, h.sent⟩
    | 4, _ => exact ⟨_, h.pla⟩
    | 5, _ => exact ⟨_, h.plain⟩
    | 6, _ => exact ⟨_, h.gain⟩
    | 7, _ => exact ⟨_, h.check⟩
    | 8, _ => exact ⟨_, h.fq⟩
    | 9, _ => exact ⟨_, h.sq⟩
    | 10, _ => exact ⟨_, h.pq⟩
    | 11, _ => exact ⟨_, h.gq⟩
    | k + 12, hk => exact absurd hk (by omega)
  · match k, h1, h2 with
    | 0, h1, _ => exact absurd h1 (by decide)
    | 1, h1, _ => exact absurd h1 (by decide)
    | 2, h1, _ => exact absurd h1 (by decide)
    | 3, h1, _ => exact absurd h1 (by decide)
    | 4, h1, _ => exact absurd h1 (by decide)
    | 5, h1, _ => exact absurd h1 (by decide)
    | 6, h1, _ => exact absurd h1 (by decide)
    | 7, h1, _ => exact absurd h1 (by decide)
    | 8, h1, _ => exact absurd h1 (by decide)
    | 9, h1, _ => exact absurd h1 (by decide)
    | 10, h1, _ => exact absurd h1 (by decide)
    | 11, h1, _ => exact absurd h1 (by decide)
    | 12, _, _ => exact ⟨_, h.as hi⟩
    | 13, _, _ => exact ⟨_, h.ci hi⟩
    | 14, _, _ => exact ⟨_, h.wo hi⟩
    | 15, _, _ => exact ⟨_, h.wi hi⟩
    | 16, _, _ => exact ⟨_, h.bi hi⟩
    | k + 17, _, h2 => exact absurd h2 (by omega)
  · match k, h1, h2 with
    | 0, h1, _ => exact absurd h1 (by decide)
    | 1, h1, _ => exact absurd h1 (by decide)
    | 2, h1, _ => exact absurd h1 (by decide)
    | 3, h1, _ => exact absurd h1 (by decide)
    | 4, h1, _ => exact absurd h1 (by decide)
    | 5, h1, _ => exact absurd h1 (by decide)
    | 6, h1, _ => exact absurd h1 (by decide)
    | 7, h1, _ => exact absurd h1 (by decide)
    | 8, h1, _ => exact absurd h1 (by decide)
    | 9, h1, _ => exact absurd h1 (by decide)
    | 10, h1, _ => exact absurd h1 (by decide)
    | 11, h1, _ => exact absurd h1 (by decide)
    | 12, h1, _ => exact absurd h1 (by decide)
    | 13, h1, _ => exact absurd h1 (by decide)
    | 14, h1, _ => exact absurd h1 (by decide)
    | 15, h1, _ => exact absurd h1 (by decide)
    | 16, h1, _ => exact absurd h1 (by decide)
    | 17, _, _ => exact ⟨_, h.ro hi⟩
    | 18, _, _ => exact ⟨_, h.rq hi⟩
    | k + 19, _, h2 => exact absurd h2 (by omega)
theorem cls.out {a u : Nat} {K : va_E → Prop} (h : cls D G A pm cnt fd tt xt li la) (hI : gw_I D Hs G H0 H locs) (ha : G a = some K) (hK : ∀ e, K e → gt e = u) (hu : u = 101 ∨ u = 6) {k i : Nat} (hk : inA k i) : A k i ≠ a := by
  have key : ∀ {b v : Nat} {K' : va_E → Prop}, G b = some K' → (∀ e, K' e → gt e = v) → v ≠ 101 → v ≠ 6 → b ≠ a := fun h1 t1 n1 n2 => gw_nec hI h1 ha t1 hK (by rcases hu with rfl | rfl; exact n1; exact n2)
  rcases hk with ⟨hk, rfl⟩ | ⟨h1, h2, hi⟩ | ⟨h1, h2, hi⟩
  · match k, hk with
    | 0, _ => exact key h.O gt_Gp (by decide) (by decide)
    | 1, _ => exact key (v := 1016) h.arr gt_R (by decide) (by decide)
    | 2, _ => exact key h.fed gt_Fe (by decide) (by decide)
    | 3, _ => exact key h.sent gt_Ro (by decide) (by decide)
    | 4, _ => exact key (v := 1008) h.pla gt_R (by decide) (by decide)
    | 5, _ => exact key h.plain gt_Ro (by decide) (by decide)
    | 6, _ => exact key h.gain gt_Ro (by decide) (by decide)
    | 7, _ => exact key h.check gt_Ch (by decide) (by decide)
    | 8, _ => exact key h.fq gt_A (by decide) (by decide)
    | 9, _ => exact key h.sq gt_A (by decide) (by decide)
    | 10, _ => exact key h.pq gt_A (by decide) (by decide)
    | 11, _ => exact key h.gq gt_A (by decide) (by decide)
    | k + 12, hk => exact absurd hk (by omega)
  · match k, h1, h2 with
    | 0, h1, _ => exact absurd h1 (by decide)
    | 1, h1, _ => exact absurd h1 (by decide)
    | 2, h1, _ => exact absurd h1 (by decide)
    | 3, h1, _ => exact absurd h1 (by decide)
    | 4, h1, _ => exact absurd h1 (by decide)
    | 5, h1, _ => exact absurd h1 (by decide)
    | 6, h1, _ => exact absurd h1 (by decide)
    | 7, h1, _ => exact absurd h1 (by decide)
    | 8, h1, _ => exact absurd h1 (by decide)
    | 9, h1, _ => exact absurd h1 (by decide)
    | 10, h1, _ => exact absurd h1 (by decide)
    | 11, h1, _ => exact absurd h1 (by decide)
    | 12, _, _ => exact key (h.as hi) gt_Ap (by decide) (by decide)
    | 13, _, _ => exact key (h.ci hi) gt_Ci (by decide) (by decide)
    | 14, _, _ => exact key (h.wo hi) gt_A (by decide) (by decide)
    | 15, _, _ => exact key (h.wi hi) gt_Wj (by decide) (by decide)
    | 16, _, _ => exact key (h.bi hi) gt_A (by decide) (by decide)
    | k + 17, _, h2 => exact absurd h2 (by omega)
  · match k, h1, h2 with
    | 0, h1, _ => exact absurd h1 (by decide)
    | 1, h1, _ => exact absurd h1 (by decide)
    | 2, h1, _ => exact absurd h1 (by decide)
    | 3, h1, _ => exact absurd h1 (by decide)
    | 4, h1, _ => exact absurd h1 (by decide)
    | 5, h1, _ => exact absurd h1 (by decide)
    | 6, h1, _ => exact absurd h1 (by decide)
    | 7, h1, _ => exact absurd h1 (by decide)
    | 8, h1, _ => exact absurd h1 (by decide)
    | 9, h1, _ => exact absurd h1 (by decide)
    | 10, h1, _ => exact absurd h1 (by decide)
    | 11, h1, _ => exact absurd h1 (by decide)
    | 12, h1, _ => exact absurd h1 (by decide)
    | 13, h1, _ => exact absurd h1 (by decide)
    | 14, h1, _ => exact absurd h1 (by decide)
    | 15, h1, _ => exact absurd h1 (by decide)
    | 16, h1, _ => exact absurd h1 (by decide)
    | 17, _, _ => exact key (h.ro hi) gt_Ro (by decide) (by decide)
    | 18, _, _ => exact key (h.rq hi) gt_A (by decide) (by decide)
    | k + 19, _, h2 => exact absurd h2 (by omega)
theorem cls.nown {a u : Nat} {K : va_E → Prop} (h : cls D G A pm cnt fd tt xt li la) (hI : gw_I D Hs G H0 H locs) (ha : G a = some K) (hK : ∀ e, K e → gt e = u) (hu : u = 101 ∨ u = 6) : ¬ own A a := fun ho => by
  rcases ho with e | e | e | ⟨i, hi, e⟩
  · exact h.out hI ha hK hu (iA0 (k := 0) (by decide)) e.symm
  · exact h.out hI ha hK hu (iA0 (k := 1) (by decide)) e.symm
  · exact h.out hI ha hK hu (iA0 (k := 2) (by decide)) e.symm
  · exact h.out hI ha hK hu (iA1 (k := 12) (by decide) (by decide) hi) e.symm
theorem fr_as {X : Nat → Prop} {i : Nat} {K : va_E → Prop} (hi : i < 16) (h : ∀ b, own A b → X b) : gw_fr X G (gw_up G (A 12 i) K) := gw_fr.up (h _ (Or.inr (Or.inr (Or.inr ⟨i, hi, rfl⟩))))
/-- what a wrapper may write -/
def ownU (A : Nat → Nat → Nat) (ou b : Nat) : Prop := own A b ∨ b = ou
theorem out_0 {f : Nat → Int64} {v : Int64} : ∀ j, j < 1 → (fun z => z = v) (vp_updL f (0 : Int32).toNatClampNeg v j) := by
  intro j hj
  have h0 : j = 0 := by omega
  subst h0
  exact if_pos (by decide)
end LB

abbrev rm_La_hurry : Room := { frames := 8, cells := 1, slots := 6, locals := 146 }
set_option maxHeartbeats 4000000 in
set_option maxRecDepth 100000 in
theorem c_La_hurry (l : Launch) (htr : l.stackTraces = false) {D : gw_D} {Hs : Heap} {G : gw_G} (A : Nat → Nat → Nat) (pm : Nat → Nat) (cnt fd : Nat) (tt xt li : Nat → Int32) (la : Nat → Int64) (hC : cls D G A pm cnt fd tt xt li la) (n1 : Int32) (n2 : Int64)  : Met l y_La_hurry (Cond.codeWith y_La_hurry b_La_hurry 5 (some .int) [(0, 6, 9, 19), (0, 6, 13, 13)] :: tb) rm_La_hurry (gw_Pc D Hs G [.ref (A 0 0), .int n1, .long n2]) (gw_Qi D Hs (fun r G1 => ∃ pm' cnt' fd' tt' xt' li' la', cls D G1 A pm' cnt' fd' tt' xt' li' la' ∧ gw_fr (own A) G G1 ∧ ∃ kp, isPl (fun j => tt (pm j)) cnt n1 kp ∧ pm' = pm ∧ cnt' = cnt ∧ fd' = fd ∧ tt' = tt ∧ xt' = xt ∧ li' = li ∧ ((¬ (kp < cnt ∧ tt (pm kp) = n1) ∧ r = 1 ∧ la' = la) ∨ ((kp < cnt ∧ tt (pm kp) = n1) ∧ (n2 < la (pm kp) ∨ gre (xt (pm kp)) < n2) ∧ r = 2 ∧ la' = la) ∨ ((kp < cnt ∧ tt (pm kp) = n1) ∧ ¬ (n2 < la (pm kp) ∨ gre (xt (pm kp)) < n2) ∧ r = 0 ∧ la' = fup la (pm kp) n2)))) 1 6 (gw_A Hs) := by
  refine gw_metW (by decide) (Nat.le_of_ble_eq_true rfl) ?_
  intro p e s m args below meth c M hK hr hlo htab hI ls hl
  have hx := M.1
  have hb := M.2.1
  have hl : lv_has ls 5 [(0, .ref (A 0 0)), (1, .int n1), (2, .long n2)] := hl
  have hC0 := hC
  refine lv_aload_n hx hb d_La_hurry_0 rfl (lv_at hl 0 rfl) ?_
  refine lv_iload_n hx hb d_La_hurry_1 rfl (lv_at hl 1 rfl) ?_
  refine lv_lload_n hx hb d_La_hurry_2 rfl (lv_at hl 2 rfl) ?_
  obtain ⟨kp, hkp⟩ := isPl.ex (fun j => tt (pm j)) n1 cnt
  by_cases hat : kp < cnt ∧ tt (pm kp) = n1
  · by_cases hbad : n2 < la (pm kp) ∨ gre (xt (pm kp)) < n2
    · refine xt_try2 (As := [.int n1, .long n2]) (rest := []) M hK hI (c_Gp_hurryy l htr A pm cnt fd tt xt li la hC n1 n2 kp hkp hat hbad) (k_Gp_hurry : gk_V _ _ _ _ _) m_La_15 hC.O (ci := 5) rfl (fun x hx => ⟨_, hx⟩) rfl hl.1 rfl (Nat.le_of_ble_eq_true rfl) ⟨rfl, rfl, ⟨Nat.le_of_ble_eq_true rfl, Nat.le_of_ble_eq_true rfl⟩, ⟨Nat.le_of_ble_eq_true rfl, Nat.le_of_ble_eq_true rfl⟩⟩ d_La_hurry_3 (x1 := ⟨0, 6, 9, 19⟩) (x2 := ⟨0, 6, 13, 13⟩) htab (by decide) (by decide) (by decide) (by decide) q_La_19 q_La_13 (by obtain ⟨-, -, -, -, -, -, -, t9, f9, -, -, -, -, -, k1, k2, k3, -⟩ := hK; exact k1) (by obtain ⟨-, -, -, -, -, -, -, t9, f9, -, -, -, -, -, -, -, -, -, -, n1, n2⟩ := hK; exact n1) (fun q9 H locs hI => ?_)
      refine lv_astore (lv' := [(4, .ref q9), (0, .ref (A 0 0)), (1, .int n1), (2, .long n2)]) hx hb d_La_hurry_13 hl (by decide) rfl (fun ls hl => ?_)
      refine lv_iconst (v := 2) hx hb d_La_hurry_15 (by decide) ?_
      exact gw_iret M hr hlo hI d_La_hurry_16 (⟨_, _, _, _, _, _, _, hC, gw_fr.rf, kp, hkp, rfl, rfl, rfl, rfl, rfl, rfl, Or.inr (Or.inl ⟨hat, hbad, rfl, rfl⟩)⟩)
    · have hIs := hI
      refine gw_Vv (As := [.int n1, .long n2]) (rest := []) M hK hI (c_Gp_hurry l A pm cnt fd tt xt li la hC n1 n2 kp hkp hat hbad) k_Gp_hurry m_La_15 hC.O (ci := 5) rfl (fun x hx => ⟨_, hx⟩) rfl hl.1 rfl (Nat.le_of_ble_eq_true rfl) ⟨rfl, rfl, ⟨Nat.le_of_ble_eq_true rfl, Nat.le_of_ble_eq_true rfl⟩, ⟨Nat.le_of_ble_eq_true rfl, Nat.le_of_ble_eq_true rfl⟩⟩ d_La_hurry_3 (fun G2 H locs hw hI => ?_)
      have hi : pm kp < 16 := hC.pmb (Nat.lt_of_lt_of_le hat.1 hC.c16)
      have hC : cls D G2 A pm cnt fd tt xt li (fup la (pm kp) n2) := by
        have h9 := hC.asup hIs hi (tt (pm kp)) (xt (pm kp)) (li (pm kp)) n2 (hC.p.2.2.2.2 _ hi)
        simp only [fup_id] at h9
        rw [hw]; exact h9
      have hfr : gw_fr (own A) G G2 := by rw [hw]; exact fr_as hi (fun b h => h)
      refine lv_goto (tgt := 17) hx hb d_La_hurry_6 (by decide) ?_
      refine lv_iconst (v := 0) hx hb d_La_hurry_17 (by decide) ?_
      refine W.widen (k := 1) (n := 6) (by omega) (by omega) ?_
      exact gw_iret M hr hlo hI d_La_hurry_18 (⟨_, _, _, _, _, _, _, hC, hfr, kp, hkp, rfl, rfl, rfl, rfl, rfl, rfl, Or.inr (Or.inr ⟨hat, hbad, rfl, rfl⟩)⟩)
  · refine xt_try (As := [.int n1, .long n2]) (rest := []) M hK hI (c_Gp_hurryx l htr A pm cnt fd tt xt li la hC n1 n2 kp hkp hat) (k_Gp_hurry : gk_V _ _ _ _ _) m_La_15 hC.O (ci := 5) rfl (fun x hx => ⟨_, hx⟩) rfl hl.1 rfl (Nat.le_of_ble_eq_true rfl) ⟨rfl, rfl, ⟨Nat.le_of_ble_eq_true rfl, Nat.le_of_ble_eq_true rfl⟩, ⟨Nat.le_of_ble_eq_true rfl, Nat.le_of_ble_eq_true rfl⟩⟩ d_La_hurry_3 (x := ⟨0, 6, 9, 19⟩) htab (by decide) (by decide) q_La_19 (by obtain ⟨-, -, -, -, -, -, -, t9, f9, -, -, -, -, -, k1, k2, k3, -⟩ := hK; exact k2) (fun q9 H locs hI => ?_)
    refine lv_astore (lv' := [(4, .ref q9), (0, .ref (A 0 0)), (1, .int n1), (2, .long n2)]) hx hb d_La_hurry_9 hl (by decide) rfl (fun ls hl => ?_)
    refine lv_iconst (v := 1) hx hb d_La_hurry_11 (by decide) ?_
    exact gw_iret M hr hlo hI d_La_hurry_12 (⟨_, _, _, _, _, _, _, hC, gw_fr.rf, kp, hkp, rfl, rfl, rfl, rfl, rfl, rfl, Or.inl ⟨hat, rfl, rfl⟩⟩)

abbrev rm_La_life : Room := { frames := 8, cells := 1, slots := 6, locals := 146 }
set_option maxHeartbeats 4000000 in
set_option maxRecDepth 100000 in
theorem c_La_life (l : Launch) (htr : l.stackTraces = false) {D : gw_D} {Hs : Heap} {G : gw_G} (A : Nat → Nat → Nat) (pm : Nat → Nat) (cnt fd : Nat) (tt xt li : Nat → Int32) (la : Nat → Int64) (hC : cls D G A pm cnt fd tt xt li la) (n1 n2 : Int32) (ou : Nat) (P : Int64 → Prop) (hU : G ou = some (kL D 1 P))  : Met l y_La_life (Cond.codeWith y_La_life b_La_life 5 (some .int) [(0, 10, 13, 19), (0, 10, 17, 13)] :: tb) rm_La_life (gw_Pc D Hs G [.ref (A 0 0), .int n1, .int n2, .ref ou]) (gw_Qi D Hs (fun r G1 => ∃ pm' cnt' fd' tt' xt' li' la' P', cls D G1 A pm' cnt' fd' tt' xt' li' la' ∧ G1 ou = some (kL D 1 P') ∧ gw_fr (ownU A ou) G G1 ∧ ∃ kp, isPl (fun j => tt (pm j)) cnt n1 kp ∧ pm' = pm ∧ cnt' = cnt ∧ fd' = fd ∧ tt' = tt ∧ xt' = xt ∧ la' = la ∧ ((¬ (kp < cnt ∧ tt (pm kp) = n1) ∧ r = 1 ∧ li' = li) ∨ ((kp < cnt ∧ tt (pm kp) = n1) ∧ n2 < 0 ∧ r = 2 ∧ li' = li) ∨ ((kp < cnt ∧ tt (pm kp) = n1) ∧ ¬ n2 < 0 ∧ r = 0 ∧ li' = fup li (pm kp) n2 ∧ ∀ z, P' z → z = (li (pm kp)).toInt64)))) 1 6 (gw_A Hs) := by
  refine gw_metW (by decide) (Nat.le_of_ble_eq_true rfl) ?_
  intro p e s m args below meth c M hK hr hlo htab hI ls hl
  have hx := M.1
  have hb := M.2.1
  have hl : lv_has ls 5 [(0, .ref (A 0 0)), (1, .int n1), (2, .int n2), (3, .ref ou)] := hl
  have hC0 := hC
  have hUo := hU
  refine lv_aload_n hx hb d_La_life_0 rfl (lv_at hl 3 rfl) ?_
  refine lv_iconst (v := 0) hx hb d_La_life_1 (by decide) ?_
  refine lv_aload_n hx hb d_La_life_2 rfl (lv_at hl 0 rfl) ?_
  refine lv_iload_n hx hb d_La_life_3 rfl (lv_at hl 1 rfl) ?_
  refine lv_iload_n hx hb d_La_life_4 rfl (lv_at hl 2 rfl) ?_
  obtain ⟨kp, hkp⟩ := isPl.ex (fun j => tt (pm j)) n1 cnt
  by_cases hat : kp < cnt ∧ tt (pm kp) = n1
  · by_cases hbad : n2 < 0
    · refine xt_try2 (As := [.int n1, .int n2]) (rest := [.int 0, .ref ou]) M hK hI (c_Gp_lifey l htr A pm cnt fd tt xt li la hC n1 n2 kp hkp hat hbad) (k_Gp_life : gk_V _ _ _ _ _) m_La_21 hC.O (ci := 5) rfl (fun x hx => ⟨_, hx⟩) rfl hl.1 rfl (Nat.le_of_ble_eq_true rfl) ⟨rfl, rfl, ⟨Nat.le_of_ble_eq_true rfl, Nat.le_of_ble_eq_true rfl⟩, ⟨Nat.le_of_ble_eq_true rfl, Nat.le_of_ble_eq_true rfl⟩⟩ d_La_life_5 (x1 := ⟨0, 10, 13, 19⟩) (x2 := ⟨0, 10, 17, 13⟩) htab (by decide) (by decide) (by decide) (by decide) q_La_19 q_La_13 (by obtain ⟨-, -, -, -, -, -, -, t9, f9, -, -, -, -, -, k1, k2, k3, -⟩ := hK; exact k1) (by obtain ⟨-, -, -, -, -, -, -, t9, f9, -, -, -, -, -, -, -, -, -, -, n1, n2⟩ := hK; exact n1) (fun q9 H locs hI => ?_)
      refine lv_astore (lv' := [(4, .ref q9), (0, .ref (A 0 0)), (1, .int n1), (2, .int n2), (3, .ref ou)]) hx hb d_La_life_17 hl (by decide) rfl (fun ls hl => ?_)
      refine lv_iconst (v := 2) hx hb d_La_life_19 (by decide) ?_
      exact gw_iret M hr hlo hI d_La_life_20 (⟨_, _, _, _, _, _, _, _, hC, hU, gw_fr.rf, kp, hkp, rfl, rfl, rfl, rfl, rfl, rfl, Or.inr (Or.inl ⟨hat, hbad, rfl, rfl⟩)⟩)
    · have hIs := hI
      refine gw_Vi (As := [.int n1, .int n2]) (rest := [.int 0, .ref ou]) M hK hI (c_Gp_life l A pm cnt fd tt xt li la hC n1 n2 kp hkp hat hbad) k_Gp_life m_La_21 hC.O (ci := 5) rfl (fun x hx => ⟨_, hx⟩) rfl hl.1 rfl (Nat.le_of_ble_eq_true rfl) ⟨rfl, rfl, ⟨Nat.le_of_ble_eq_true rfl, Nat.le_of_ble_eq_true rfl⟩, ⟨Nat.le_of_ble_eq_true rfl, Nat.le_of_ble_eq_true rfl⟩⟩ d_La_life_5 (fun x1 G2 H locs hw hI => ?_)
      obtain ⟨h_x1, hw⟩ := hw
      subst h_x1
      have hi : pm kp < 16 := hC.pmb (Nat.lt_of_lt_of_le hat.1 hC.c16)
      have hC : cls D G2 A pm cnt fd tt xt (fup li (pm kp) n2) la := by
        have h9 := hC.asup hIs hi (tt (pm kp)) (xt (pm kp)) n2 (la (pm kp)) (hC.p.2.2.2.2 _ hi)
        simp only [fup_id] at h9
        rw [hw]; exact h9
      have hfr : gw_fr (own A) G G2 := by rw [hw]; exact fr_as hi (fun b h => h)
      have hUo : G2 ou = some (kL D 1 P) := hfr _ _ hU (fun h9 => hC0.nown hIs hU gt_L (Or.inl rfl) h9)
      have hU := hUo
      have hfr : gw_fr (ownU A ou) G G2 := hfr.le (fun b h => Or.inl h)
      refine lv_i2l hx hb d_La_life_8 rfl ?_
      refine lv_topl (fun x3 e_x3 => ?_)
      obtain ⟨-, x9, ⟨f9, hf9, hq9⟩, hat9⟩ := hI.1.2.2 ou _ hU
      subst hq9
      have hIo := hI
      refine gw_last0 M hK hI hU hat9 (vp_in_nI (n := 0) (by decide) (by decide)) (kL D 1 (fun z => z = x3)) ⟨_, out_0, rfl⟩ d_La_life_9 (fun H locs hI => ?_)
      obtain ⟨G4, hE_G4⟩ : ∃ z9, gw_up G2 ou (kL D 1 (fun z => z = x3)) = z9 := ⟨_, rfl⟩
      rw [hE_G4] at hI
      have hfu : gw_fr (fun b => b = ou) G2 G4 := by rw [← hE_G4]; exact gw_fr.up rfl
      have hU : G4 ou = some (kL D 1 (fun z => z = x3)) := by rw [← hE_G4]; exact gw_up_s
      have hC := hC.fr hfu (fun k i hk => hC.out hIo hUo gt_L (Or.inl rfl) hk)
      have hfr : gw_fr (ownU A ou) G G4 := hfr.tr (hfu.le (fun b h => Or.inr h))
      refine lv_goto (tgt := 21) hx hb d_La_life_10 (by decide) ?_
      refine lv_iconst (v := 0) hx hb d_La_life_21 (by decide) ?_
      refine W.widen (k := 1) (n := 6) (by omega) (by omega) ?_
      exact gw_iret M hr hlo hI d_La_life_22 (⟨_, _, _, _, _, _, _, _, hC, hU, hfr, kp, hkp, rfl, rfl, rfl, rfl, rfl, rfl, Or.inr (Or.inr ⟨hat, hbad, rfl, rfl, fun z hz => hz.trans e_x3⟩)⟩)
  · refine xt_try (As := [.int n1, .int n2]) (rest := [.int 0, .ref ou]) M hK hI (c_Gp_lifex l htr A pm cnt fd tt xt li la hC n1 n2 kp hkp hat) (k_Gp_life : gk_V _ _ _ _ _) m_La_21 hC.O (ci := 5) rfl (fun x hx => ⟨_, hx⟩) rfl hl.1 rfl (Nat.le_of_ble_eq_true rfl) ⟨rfl, rfl, ⟨Nat.le_of_ble_eq_true rfl, Nat.le_of_ble_eq_true rfl⟩, ⟨Nat.le_of_ble_eq_true rfl, Nat.le_of_ble_eq_true rfl⟩⟩ d_La_life_5 (x := ⟨0, 10, 13, 19⟩) htab (by decide) (by decide) q_La_19 (by obtain ⟨-, -, -, -, -, -, -, t9, f9, -, -, -, -, -, k1, k2, k3, -⟩ := hK; exact k2) (fun q9 H locs hI => ?_)
    refine lv_astore (lv' := [(4, .ref q9), (0, .ref (A 0 0)), (1, .int n1), (2, .int n2), (3, .ref ou)]) hx hb d_La_life_13 hl (by decide) rfl (fun ls hl => ?_)
    refine lv_iconst (v := 1) hx hb d_La_life_15 (by decide) ?_
    exact gw_iret M hr hlo hI d_La_life_16 (⟨_, _, _, _, _, _, _, _, hC, hU, gw_fr.rf, kp, hkp, rfl, rfl, rfl, rfl, rfl, rfl, Or.inl ⟨hat, rfl, rfl⟩⟩)

abbrev rm_La_seal : Room := { frames := 8, cells := 1, slots := 6, locals := 153 }
set_option maxHeartbeats 4000000 in
set_option maxRecDepth 100000 in
theorem c_La_seal (l : Launch) (htr : l.stackTraces = false) {D : gw_D} {Hs : Heap} {G : gw_G} (A : Nat → Nat → Nat) (pm : Nat → Nat) (cnt fd : Nat) (tt xt li : Nat → Int32) (la : Nat → Int64) (hC : cls D G A pm cnt fd tt xt li la) (n1 n2 : Int32) (ou : Nat) (P : Int64 → Prop) (hU : G ou = some (kL D 1 P))  : Met l y_La_seal (Cond.codeWith y_La_seal b_La_seal 5 (some .int) [(0, 10, 13, 19), (0, 10, 17, 13)] :: tb) rm_La_seal (gw_Pc D Hs G [.ref (A 0 0), .int n1, .int n2, .ref ou]) (gw_Qi D Hs (fun r G1 => ∃ pm' cnt' fd' tt' xt' li' la' P', cls D G1 A pm' cnt' fd' tt' xt' li' la' ∧ G1 ou = some (kL D 1 P') ∧ gw_fr (ownU A ou) G G1 ∧ ∃ kp, isPl (fun j => tt (pm j)) cnt n1 kp ∧ pm' = pm ∧ cnt' = cnt ∧ fd' = fd ∧ tt' = tt ∧ xt' = xt ∧ ((¬ (kp < cnt ∧ tt (pm kp) = n1) ∧ r = 1 ∧ li' = li ∧ la' = la) ∨ ((kp < cnt ∧ tt (pm kp) = n1) ∧ ¬ okB n2 ∧ r = 2 ∧ li' = li ∧ la' = la) ∨ ((kp < cnt ∧ tt (pm kp) = n1) ∧ okB n2 ∧ r = 0 ∧ (((gre (xt (pm kp)) ≤ la (pm kp) ∨ li (pm kp) < nI fd) ∧ li' = li ∧ la' = la) ∨ (¬ (gre (xt (pm kp)) ≤ la (pm kp) ∨ li (pm kp) < nI fd) ∧ li' = fup li (pm kp) (li (pm kp) - nI fd) ∧ la' = fup la (pm kp) (la (pm kp) + 1))))))) 1 6 (gw_A Hs) := by
  refine gw_metW (by decide) (Nat.le_of_ble_eq_true rfl) ?_
  intro p e s m args below meth c M hK hr hlo htab hI ls hl
  have hx := M.1
  have hb := M.2.1
  have hl : lv_has ls 5 [(0, .ref (A 0 0)), (1, .int n1), (2, .int n2), (3, .ref ou)] := hl
  have hC0 := hC
  have hUo := hU
  refine lv_aload_n hx hb d_La_seal_0 rfl (lv_at hl 3 rfl) ?_
  refine lv_iconst (v := 0) hx hb d_La_seal_1 (by decide) ?_
  refine lv_aload_n hx hb d_La_seal_2 rfl (lv_at hl 0 rfl) ?_
  refine lv_iload_n hx hb d_La_seal_3 rfl (lv_at hl 1 rfl) ?_
  refine lv_iload_n hx hb d_La_seal_4 rfl (lv_at hl 2 rfl) ?_
  obtain ⟨kp, hkp⟩ := isPl.ex (fun j => tt (pm j)) n1 cnt
  by_cases hat : kp < cnt ∧ tt (pm kp) = n1
  · by_cases hby : okB n2
    · have hIs := hI
      refine gw_Vi (As := [.int n1, .int n2]) (rest := [.int 0, .ref ou]) M hK hI (c_Gp_seal l A pm cnt fd tt xt li la hC n1 n2 kp hkp hat hby) k_Gp_seal m_La_29 hC.O (ci := 5) rfl (fun x hx => ⟨_, hx⟩) rfl hl.1 rfl (Nat.le_of_ble_eq_true rfl) ⟨rfl, rfl, ⟨Nat.le_of_ble_eq_true rfl, Nat.le_of_ble_eq_true rfl⟩, ⟨Nat.le_of_ble_eq_true rfl, Nat.le_of_ble_eq_true rfl⟩⟩ d_La_seal_5 (fun x1 G2 H locs hw hI => ?_)
      obtain ⟨li2, la2, hC, hfr, hev⟩ : ∃ li2 la2, cls D G2 A pm cnt fd tt xt li2 la2 ∧ gw_fr (own A) G G2 ∧ (((gre (xt (pm kp)) ≤ la (pm kp) ∨ li (pm kp) < nI fd) ∧ li2 = li ∧ la2 = la) ∨ (¬ (gre (xt (pm kp)) ≤ la (pm kp) ∨ li (pm kp) < nI fd) ∧ li2 = fup li (pm kp) (li (pm kp) - nI fd) ∧ la2 = fup la (pm kp) (la (pm kp) + 1))) := by
        rcases hw with ⟨h1, hw⟩ | ⟨h1, hw⟩
        · exact ⟨li, la, by rw [hw]; exact hC, by rw [hw]; exact gw_fr.rf, Or.inl ⟨h1, rfl, rfl⟩⟩
        · have hi : pm kp < 16 := hC.pmb (Nat.lt_of_lt_of_le hat.1 hC.c16)
          have h9 := hC.asup hIs hi (tt (pm kp)) (xt (pm kp)) (li (pm kp) - nI fd) (la (pm kp) + 1) (hC.p.2.2.2.2 _ hi)
          simp only [fup_id] at h9
          exact ⟨_, _, by rw [hw]; exact h9, by rw [hw]; exact fr_as hi (fun b h => h), Or.inr ⟨h1, rfl, rfl⟩⟩
      have hUo : G2 ou = some (kL D 1 P) := hfr _ _ hU (fun h9 => hC0.nown hIs hU gt_L (Or.inl rfl) h9)
      have hU := hUo
      have hfr : gw_fr (ownU A ou) G G2 := hfr.le (fun b h => Or.inl h)
      refine lv_i2l hx hb d_La_seal_8 rfl ?_
      refine lv_topl (fun x3 e_x3 => ?_)
      obtain ⟨-, x9, ⟨f9, hf9, hq9⟩, hat9⟩ := hI.1.2.2 ou _ hU
      subst hq9
      have hIo := hI
      refine gw_last0 M hK hI hU hat9 (vp_in_nI (n := 0) (by decide) (by decide)) (kL D 1 (fun z => z = x3)) ⟨_, out_0, rfl⟩ d_La_seal_9 (fun H locs hI => ?_)
      obtain ⟨G4, hE_G4⟩ : ∃ z9, gw_up G2 ou (kL D 1 (fun z => z = x3)) = z9 := ⟨_, rfl⟩
      rw [hE_G4] at hI
      have hfu : gw_fr (fun b => b = ou) G2 G4 := by rw [← hE_G4]; exact gw_fr.up rfl
      have hU : G4 ou = some (kL D 1 (fun z => z = x3)) := by rw [← hE_G4]; exact gw_up_s
      have hC := hC.fr hfu (fun k i hk => hC.out hIo hUo gt_L (Or.inl rfl) hk)
      have hfr : gw_fr (ownU A ou) G G4 := hfr.tr (hfu.le (fun b h => Or.inr h))
      refine lv_goto (tgt := 21) hx hb d_La_seal_10 (by decide) ?_
      refine lv_iconst (v := 0) hx hb d_La_seal_21 (by decide) ?_
      refine W.widen (k := 1) (n := 6) (by omega) (by omega) ?_
      exact gw_iret M hr hlo hI d_La_seal_22 (⟨_, _, _, _, _, _, _, _, hC, hU, hfr, kp, hkp, rfl, rfl, rfl, rfl, rfl, Or.inr (Or.inr ⟨hat, hby, rfl, hev⟩)⟩)
    · refine xt_try2 (As := [.int n1, .int n2]) (rest := [.int 0, .ref ou]) M hK hI (c_Gp_sealy l htr A pm cnt fd tt xt li la hC n1 n2 kp hkp hat hby) (k_Gp_seal : gk_V _ _ _ _ _) m_La_29 hC.O (ci := 5) rfl (fun x hx => ⟨_, hx⟩) rfl hl.1 rfl (Nat.le_of_ble_eq_true rfl) ⟨rfl, rfl, ⟨Nat.le_of_ble_eq_true rfl, Nat.le_of_ble_eq_true rfl⟩, ⟨Nat.le_of_ble_eq_true rfl, Nat.le_of_ble_eq_true rfl⟩⟩ d_La_seal_5 (x1 := ⟨0, 10, 13, 19⟩) (x2 := ⟨0, 10, 17, 13⟩) htab (by decide) (by decide) (by decide) (by decide) q_La_19 q_La_13 (by obtain ⟨-, -, -, -, -, -, -, t9, f9, -, -, -, -, -, k1, k2, k3, -⟩ := hK; exact k1) (by obtain ⟨-, -, -, -, -, -, -, t9, f9, -, -, -, -, -, -, -, -, -, -, n1, n2⟩ := hK; exact n1) (fun q9 H locs hI => ?_)
      refine lv_astore (lv' := [(4, .ref q9), (0, .ref (A 0 0)), (1, .int n1), (2, .int n2), (3, .ref ou)]) hx hb d_La_seal_17 hl (by decide) rfl (fun ls hl => ?_)
      refine lv_iconst (v := 2) hx hb d_La_seal_19 (by decide) ?_
      exact gw_iret M hr hlo hI d_La_seal_20 (⟨_, _, _, _, _, _, _, _, hC, hU, gw_fr.rf, kp, hkp, rfl, rfl, rfl, rfl, rfl, Or.inr (Or.inl ⟨hat, hby, rfl, rfl, rfl⟩)⟩)
  · refine xt_try (As := [.int n1, .int n2]) (rest := [.int 0, .ref ou]) M hK hI (c_Gp_sealx l htr A pm cnt fd tt xt li la hC n1 n2 kp hkp hat) (k_Gp_seal : gk_V _ _ _ _ _) m_La_29 hC.O (ci := 5) rfl (fun x hx => ⟨_, hx⟩) rfl hl.1 rfl (Nat.le_of_ble_eq_true rfl) ⟨rfl, rfl, ⟨Nat.le_of_ble_eq_true rfl, Nat.le_of_ble_eq_true rfl⟩, ⟨Nat.le_of_ble_eq_true rfl, Nat.le_of_ble_eq_true rfl⟩⟩ d_La_seal_5 (x := ⟨0, 10, 13, 19⟩) htab (by decide) (by decide) q_La_19 (by obtain ⟨-, -, -, -, -, -, -, t9, f9, -, -, -, -, -, k1, k2, k3, -⟩ := hK; exact k2) (fun q9 H locs hI => ?_)
    refine lv_astore (lv' := [(4, .ref q9), (0, .ref (A 0 0)), (1, .int n1), (2, .int n2), (3, .ref ou)]) hx hb d_La_seal_13 hl (by decide) rfl (fun ls hl => ?_)
    refine lv_iconst (v := 1) hx hb d_La_seal_15 (by decide) ?_
    exact gw_iret M hr hlo hI d_La_seal_16 (⟨_, _, _, _, _, _, _, _, hC, hU, gw_fr.rf, kp, hkp, rfl, rfl, rfl, rfl, rfl, Or.inl ⟨hat, rfl, rfl, rfl⟩⟩)

abbrev rm_La_told : Room := { frames := 8, cells := 1, slots := 6, locals := 145 }
set_option maxHeartbeats 4000000 in
set_option maxRecDepth 100000 in
theorem c_La_told (l : Launch) (htr : l.stackTraces = false) {D : gw_D} {Hs : Heap} {G : gw_G} (A : Nat → Nat → Nat) (pm : Nat → Nat) (cnt fd : Nat) (tt xt li : Nat → Int32) (la : Nat → Int64) (hC : cls D G A pm cnt fd tt xt li la) (n1 n2 : Int32) (ou : Nat) (P : Int64 → Prop) (hU : G ou = some (kL D 1 P))  : Met l y_La_told (Cond.codeWith y_La_told b_La_told 5 (some .int) [(0, 9, 12, 19), (0, 9, 16, 13)] :: tb) rm_La_told (gw_Pc D Hs G [.ref (A 0 0), .int n1, .int n2, .ref ou]) (gw_Qi D Hs (fun r G1 => ∃ pm' cnt' fd' tt' xt' li' la' P', cls D G1 A pm' cnt' fd' tt' xt' li' la' ∧ G1 ou = some (kL D 1 P') ∧ gw_fr (ownU A ou) G G1 ∧ pm' = pm ∧ cnt' = cnt ∧ fd' = fd ∧ tt' = tt ∧ xt' = xt ∧ li' = li ∧ la' = la)) 1 6 (gw_A Hs) := by
  refine gw_metW (by decide) (Nat.le_of_ble_eq_true rfl) ?_
  intro p e s m args below meth c M hK hr hlo htab hI ls hl
  have hx := M.1
  have hb := M.2.1
  have hl : lv_has ls 5 [(0, .ref (A 0 0)), (1, .int n1), (2, .int n2), (3, .ref ou)] := hl
  have hC0 := hC
  have hUo := hU
  refine lv_aload_n hx hb d_La_told_0 rfl (lv_at hl 3 rfl) ?_
  refine lv_iconst (v := 0) hx hb d_La_told_1 (by decide) ?_
  refine lv_aload_n hx hb d_La_told_2 rfl (lv_at hl 0 rfl) ?_
  refine lv_iload_n hx hb d_La_told_3 rfl (lv_at hl 1 rfl) ?_
  refine lv_iload_n hx hb d_La_told_4 rfl (lv_at hl 2 rfl) ?_
  obtain ⟨kp, hkp⟩ := isPl.ex (fun j => tt (pm j)) n1 cnt
  by_cases hat : kp < cnt ∧ tt (pm kp) = n1
  · by_cases hbad : n2.toInt < 0 ∨ 7 < n2.toInt
    · refine xt_try2 (As := [.int n1, .int n2]) (rest := [.int 0, .ref ou]) M hK hI (c_Gp_toldy l htr A pm cnt fd tt xt li la hC n1 n2 kp hkp hat hbad) (k_Gp_told : gk_V _ _ _ _ _) m_La_48 hC.O (ci := 5) rfl (fun x hx => ⟨_, hx⟩) rfl hl.1 rfl (Nat.le_of_ble_eq_true rfl) ⟨rfl, rfl, ⟨Nat.le_of_ble_eq_true rfl, Nat.le_of_ble_eq_true rfl⟩, ⟨Nat.le_of_ble_eq_true rfl, Nat.le_of_ble_eq_true rfl⟩⟩ d_La_told_5 (x1 := ⟨0, 9, 12, 19⟩) (x2 := ⟨0, 9, 16, 13⟩) htab (by decide) (by decide) (by decide) (by decide) q_La_19 q_La_13 (by obtain ⟨-, -, -, -, -, -, -, t9, f9, -, -, -, -, -, k1, k2, k3, -⟩ := hK; exact k1) (by obtain ⟨-, -, -, -, -, -, -, t9, f9, -, -, -, -, -, -, -, -, -, -, n1, n2⟩ := hK; exact n1) (fun q9 H locs hI => ?_)
      refine lv_astore (lv' := [(4, .ref q9), (0, .ref (A 0 0)), (1, .int n1), (2, .int n2), (3, .ref ou)]) hx hb d_La_told_16 hl (by decide) rfl (fun ls hl => ?_)
      refine lv_iconst (v := 2) hx hb d_La_told_18 (by decide) ?_
      exact gw_iret M hr hlo hI d_La_told_19 (⟨_, _, _, _, _, _, _, _, hC, hU, gw_fr.rf, rfl, rfl, rfl, rfl, rfl, rfl, rfl⟩)
    · have hIs := hI
      refine gw_Vl (As := [.int n1, .int n2]) (rest := [.int 0, .ref ou]) M hK hI (c_Gp_told l A pm cnt fd tt xt li la hC n1 n2 kp hkp hat hbad) k_Gp_told m_La_48 hC.O (ci := 5) rfl (fun x hx => ⟨_, hx⟩) rfl hl.1 rfl (Nat.le_of_ble_eq_true rfl) ⟨rfl, rfl, ⟨Nat.le_of_ble_eq_true rfl, Nat.le_of_ble_eq_true rfl⟩, ⟨Nat.le_of_ble_eq_true rfl, Nat.le_of_ble_eq_true rfl⟩⟩ d_La_told_5 (fun x1 G2 H locs hw hI => ?_)
      rw [hw] at hI
      have hfr : gw_fr (own A) G G2 := by rw [hw]; exact gw_fr.rf
      have hC : cls D G2 A pm cnt fd tt xt li la := by rw [hw]; exact hC
      rw [← hw] at hI
      have hUo : G2 ou = some (kL D 1 P) := hfr _ _ hU (fun h9 => hC0.nown hIs hU gt_L (Or.inl rfl) h9)
      have hU := hUo
      have hfr : gw_fr (ownU A ou) G G2 := hfr.le (fun b h => Or.inl h)
      obtain ⟨-, x9, ⟨f9, hf9, hq9⟩, hat9⟩ := hI.1.2.2 ou _ hU
      subst hq9
      have hIo := hI
      refine gw_last0 M hK hI hU hat9 (vp_in_nI (n := 0) (by decide) (by decide)) (kL D 1 (fun z => z = x1)) ⟨_, out_0, rfl⟩ d_La_told_8 (fun H locs hI => ?_)
      obtain ⟨G3, hE_G3⟩ : ∃ z9, gw_up G2 ou (kL D 1 (fun z => z = x1)) = z9 := ⟨_, rfl⟩
      rw [hE_G3] at hI
      have hfu : gw_fr (fun b => b = ou) G2 G3 := by rw [← hE_G3]; exact gw_fr.up rfl
      have hU : G3 ou = some (kL D 1 (fun z => z = x1)) := by rw [← hE_G3]; exact gw_up_s
      have hC := hC.fr hfu (fun k i hk => hC.out hIo hUo gt_L (Or.inl rfl) hk)
      have hfr : gw_fr (ownU A ou) G G3 := hfr.tr (hfu.le (fun b h => Or.inr h))
      refine lv_goto (tgt := 20) hx hb d_La_told_9 (by decide) ?_
      refine lv_iconst (v := 0) hx hb d_La_told_20 (by decide) ?_
      refine W.widen (k := 1) (n := 6) (by omega) (by omega) ?_
      exact gw_iret M hr hlo hI d_La_told_21 (⟨_, _, _, _, _, _, _, _, hC, hU, hfr, rfl, rfl, rfl, rfl, rfl, rfl, rfl⟩)
  · refine xt_try (As := [.int n1, .int n2]) (rest := [.int 0, .ref ou]) M hK hI (c_Gp_toldx l htr A pm cnt fd tt xt li la hC n1 n2 kp hkp hat) (k_Gp_told : gk_V _ _ _ _ _) m_La_48 hC.O (ci := 5) rfl (fun x hx => ⟨_, hx⟩) rfl hl.1 rfl (Nat.le_of_ble_eq_true rfl) ⟨rfl, rfl, ⟨Nat.le_of_ble_eq_true rfl, Nat.le_of_ble_eq_true rfl⟩, ⟨Nat.le_of_ble_eq_true rfl, Nat.le_of_ble_eq_true rfl⟩⟩ d_La_told_5 (x := ⟨0, 9, 12, 19⟩) htab (by decide) (by decide) q_La_19 (by obtain ⟨-, -, -, -, -, -, -, t9, f9, -, -, -, -, -, k1, k2, k3, -⟩ := hK; exact k2) (fun q9 H locs hI => ?_)
    refine lv_astore (lv' := [(4, .ref q9), (0, .ref (A 0 0)), (1, .int n1), (2, .int n2), (3, .ref ou)]) hx hb d_La_told_12 hl (by decide) rfl (fun ls hl => ?_)
    refine lv_iconst (v := 1) hx hb d_La_told_14 (by decide) ?_
    exact gw_iret M hr hlo hI d_La_told_15 (⟨_, _, _, _, _, _, _, _, hC, hU, gw_fr.rf, rfl, rfl, rfl, rfl, rfl, rfl, rfl⟩)

abbrev rm_La_given : Room := { frames := 8, cells := 1, slots := 6, locals := 145 }
set_option maxHeartbeats 4000000 in
set_option maxRecDepth 100000 in
theorem c_La_given (l : Launch) (htr : l.stackTraces = false) {D : gw_D} {Hs : Heap} {G : gw_G} (A : Nat → Nat → Nat) (pm : Nat → Nat) (cnt fd : Nat) (tt xt li : Nat → Int32) (la : Nat → Int64) (hC : cls D G A pm cnt fd tt xt li la) (n1 n2 : Int32) (ou : Nat) (P : Int64 → Prop) (hU : G ou = some (kL D 1 P))  : Met l y_La_given (Cond.codeWith y_La_given b_La_given 5 (some .int) [(0, 9, 12, 19), (0, 9, 16, 13)] :: tb) rm_La_given (gw_Pc D Hs G [.ref (A 0 0), .int n1, .int n2, .ref ou]) (gw_Qi D Hs (fun r G1 => ∃ pm' cnt' fd' tt' xt' li' la' P', cls D G1 A pm' cnt' fd' tt' xt' li' la' ∧ G1 ou = some (kL D 1 P') ∧ gw_fr (ownU A ou) G G1 ∧ pm' = pm ∧ cnt' = cnt ∧ fd' = fd ∧ tt' = tt ∧ xt' = xt ∧ li' = li ∧ la' = la)) 1 6 (gw_A Hs) := by
  refine gw_metW (by decide) (Nat.le_of_ble_eq_true rfl) ?_
  intro p e s m args below meth c M hK hr hlo htab hI ls hl
  have hx := M.1
  have hb := M.2.1
  have hl : lv_has ls 5 [(0, .ref (A 0 0)), (1, .int n1), (2, .int n2), (3, .ref ou)] := hl
  have hC0 := hC
  have hUo := hU
  refine lv_aload_n hx hb d_La_given_0 rfl (lv_at hl 3 rfl) ?_
  refine lv_iconst (v := 0) hx hb d_La_given_1 (by decide) ?_
  refine lv_aload_n hx hb d_La_given_2 rfl (lv_at hl 0 rfl) ?_
  refine lv_iload_n hx hb d_La_given_3 rfl (lv_at hl 1 rfl) ?_
  refine lv_iload_n hx hb d_La_given_4 rfl (lv_at hl 2 rfl) ?_
  obtain ⟨kp, hkp⟩ := isPl.ex (fun j => tt (pm j)) n1 cnt
  by_cases hat : kp < cnt ∧ tt (pm kp) = n1
  · by_cases hbad : n2 < 0
    · refine xt_try2 (As := [.int n1, .int n2]) (rest := [.int 0, .ref ou]) M hK hI (c_Gp_giveny l htr A pm cnt fd tt xt li la hC n1 n2 kp hkp hat hbad) (k_Gp_given : gk_V _ _ _ _ _) m_La_52 hC.O (ci := 5) rfl (fun x hx => ⟨_, hx⟩) rfl hl.1 rfl (Nat.le_of_ble_eq_true rfl) ⟨rfl, rfl, ⟨Nat.le_of_ble_eq_true rfl, Nat.le_of_ble_eq_true rfl⟩, ⟨Nat.le_of_ble_eq_true rfl, Nat.le_of_ble_eq_true rfl⟩⟩ d_La_given_5 (x1 := ⟨0, 9, 12, 19⟩) (x2 := ⟨0, 9, 16, 13⟩) htab (by decide) (by decide) (by decide) (by decide) q_La_19 q_La_13 (by obtain ⟨-, -, -, -, -, -, -, t9, f9, -, -, -, -, -, k1, k2, k3, -⟩ := hK; exact k1) (by obtain ⟨-, -, -, -, -, -, -, t9, f9, -, -, -, -, -, -, -, -, -, -, n1, n2⟩ := hK; exact n1) (fun q9 H locs hI => ?_)
      refine lv_astore (lv' := [(4, .ref q9), (0, .ref (A 0 0)), (1, .int n1), (2, .int n2), (3, .ref ou)]) hx hb d_La_given_16 hl (by decide) rfl (fun ls hl => ?_)
      refine lv_iconst (v := 2) hx hb d_La_given_18 (by decide) ?_
      exact gw_iret M hr hlo hI d_La_given_19 (⟨_, _, _, _, _, _, _, _, hC, hU, gw_fr.rf, rfl, rfl, rfl, rfl, rfl, rfl, rfl⟩)
    · have hIs := hI
      refine gw_Vl (As := [.int n1, .int n2]) (rest := [.int 0, .ref ou]) M hK hI (c_Gp_given l A pm cnt fd tt xt li la hC n1 n2 kp hkp hat hbad) k_Gp_given m_La_52 hC.O (ci := 5) rfl (fun x hx => ⟨_, hx⟩) rfl hl.1 rfl (Nat.le_of_ble_eq_true rfl) ⟨rfl, rfl, ⟨Nat.le_of_ble_eq_true rfl, Nat.le_of_ble_eq_true rfl⟩, ⟨Nat.le_of_ble_eq_true rfl, Nat.le_of_ble_eq_true rfl⟩⟩ d_La_given_5 (fun x1 G2 H locs hw hI => ?_)
      rw [hw] at hI
      have hfr : gw_fr (own A) G G2 := by rw [hw]; exact gw_fr.rf
      have hC : cls D G2 A pm cnt fd tt xt li la := by rw [hw]; exact hC
      rw [← hw] at hI
      have hUo : G2 ou = some (kL D 1 P) := hfr _ _ hU (fun h9 => hC0.nown hIs hU gt_L (Or.inl rfl) h9)
      have hU := hUo
      have hfr : gw_fr (ownU A ou) G G2 := hfr.le (fun b h => Or.inl h)
      obtain ⟨-, x9, ⟨f9, hf9, hq9⟩, hat9⟩ := hI.1.2.2 ou _ hU
      subst hq9
      have hIo := hI
      refine gw_last0 M hK hI hU hat9 (vp_in_nI (n := 0) (by decide) (by decide)) (kL D 1 (fun z => z = x1)) ⟨_, out_0, rfl⟩ d_La_given_8 (fun H locs hI => ?_)
      obtain ⟨G3, hE_G3⟩ : ∃ z9, gw_up G2 ou (kL D 1 (fun z => z = x1)) = z9 := ⟨_, rfl⟩
      rw [hE_G3] at hI
      have hfu : gw_fr (fun b => b = ou) G2 G3 := by rw [← hE_G3]; exact gw_fr.up rfl
      have hU : G3 ou = some (kL D 1 (fun z => z = x1)) := by rw [← hE_G3]; exact gw_up_s
      have hC := hC.fr hfu (fun k i hk => hC.out hIo hUo gt_L (Or.inl rfl) hk)
      have hfr : gw_fr (ownU A ou) G G3 := hfr.tr (hfu.le (fun b h => Or.inr h))
      refine lv_goto (tgt := 20) hx hb d_La_given_9 (by decide) ?_
      refine lv_iconst (v := 0) hx hb d_La_given_20 (by decide) ?_
      refine W.widen (k := 1) (n := 6) (by omega) (by omega) ?_
      exact gw_iret M hr hlo hI d_La_given_21 (⟨_, _, _, _, _, _, _, _, hC, hU, hfr, rfl, rfl, rfl, rfl, rfl, rfl, rfl⟩)
  · refine xt_try (As := [.int n1, .int n2]) (rest := [.int 0, .ref ou]) M hK hI (c_Gp_givenx l htr A pm cnt fd tt xt li la hC n1 n2 kp hkp hat) (k_Gp_given : gk_V _ _ _ _ _) m_La_52 hC.O (ci := 5) rfl (fun x hx => ⟨_, hx⟩) rfl hl.1 rfl (Nat.le_of_ble_eq_true rfl) ⟨rfl, rfl, ⟨Nat.le_of_ble_eq_true rfl, Nat.le_of_ble_eq_true rfl⟩, ⟨Nat.le_of_ble_eq_true rfl, Nat.le_of_ble_eq_true rfl⟩⟩ d_La_given_5 (x := ⟨0, 9, 12, 19⟩) htab (by decide) (by decide) q_La_19 (by obtain ⟨-, -, -, -, -, -, -, t9, f9, -, -, -, -, -, k1, k2, k3, -⟩ := hK; exact k2) (fun q9 H locs hI => ?_)
    refine lv_astore (lv' := [(4, .ref q9), (0, .ref (A 0 0)), (1, .int n1), (2, .int n2), (3, .ref ou)]) hx hb d_La_given_12 hl (by decide) rfl (fun ls hl => ?_)
    refine lv_iconst (v := 1) hx hb d_La_given_14 (by decide) ?_
    exact gw_iret M hr hlo hI d_La_given_15 (⟨_, _, _, _, _, _, _, _, hC, hU, gw_fr.rf, rfl, rfl, rfl, rfl, rfl, rfl, rfl⟩)

abbrev rm_La_keep : Room := { frames := 7, cells := 1, slots := 6, locals := 121 }
set_option maxHeartbeats 4000000 in
set_option maxRecDepth 100000 in
theorem c_La_keep (l : Launch) (htr : l.stackTraces = false) {D : gw_D} {Hs : Heap} {G : gw_G} (A : Nat → Nat → Nat) (pm : Nat → Nat) (cnt fd : Nat) (tt xt li : Nat → Int32) (la : Nat → Int64) (hC : cls D G A pm cnt fd tt xt li la) (n1 : Int32)  : Met l y_La_keep (Cond.codeWith y_La_keep b_La_keep 3 (some .int) [(0, 5, 8, 35)] :: tb) rm_La_keep (gw_Pc D Hs G [.ref (A 0 0), .int n1]) (gw_Qi D Hs (fun r G1 => ((¬ okP n1 ∧ r = 1) ∨ (okP n1 ∧ r = 0)) ∧ G1 = G)) 1 6 (gw_A Hs) := by
  refine gw_metW (by decide) (Nat.le_of_ble_eq_true rfl) ?_
  intro p e s m args below meth c M hK hr hlo htab hI ls hl
  have hx := M.1
  have hb := M.2.1
  have hl : lv_has ls 3 [(0, .ref (A 0 0)), (1, .int n1)] := hl
  have hC0 := hC
  refine lv_aload_n hx hb d_La_keep_0 rfl (lv_at hl 0 rfl) ?_
  refine lv_iload_n hx hb d_La_keep_1 rfl (lv_at hl 1 rfl) ?_
  by_cases hpl : okP n1
  · have hIs := hI
    refine gw_Vv (As := [.int n1]) (rest := []) M hK hI (c_Gp_keep l A pm cnt fd tt xt li la hC n1 hpl) k_Gp_keep m_La_41 hC.O (ci := 5) rfl (fun x hx => ⟨_, hx⟩) rfl hl.1 rfl (Nat.le_of_ble_eq_true rfl) ⟨rfl, rfl, ⟨Nat.le_of_ble_eq_true rfl, Nat.le_of_ble_eq_true rfl⟩, ⟨Nat.le_of_ble_eq_true rfl, Nat.le_of_ble_eq_true rfl⟩⟩ d_La_keep_2 (fun G2 H locs hw hI => ?_)
    refine lv_goto (tgt := 11) hx hb d_La_keep_5 (by decide) ?_
    refine lv_iconst (v := 0) hx hb d_La_keep_11 (by decide) ?_
    refine W.widen (k := 1) (n := 6) (by omega) (by omega) ?_
    exact gw_iret M hr hlo hI d_La_keep_12 (⟨Or.inr ⟨hpl, rfl⟩, hw⟩)
  · refine xt_try (As := [.int n1]) (rest := []) M hK hI (c_Gp_keepx l htr A pm cnt fd tt xt li la hC n1 hpl) (k_Gp_keep : gk_V _ _ _ _ _) m_La_41 hC.O (ci := 5) rfl (fun x hx => ⟨_, hx⟩) rfl hl.1 rfl (Nat.le_of_ble_eq_true rfl) ⟨rfl, rfl, ⟨Nat.le_of_ble_eq_true rfl, Nat.le_of_ble_eq_true rfl⟩, ⟨Nat.le_of_ble_eq_true rfl, Nat.le_of_ble_eq_true rfl⟩⟩ d_La_keep_2 (x := ⟨0, 5, 8, 35⟩) htab (by decide) (by decide) q_La_35 (by obtain ⟨-, -, -, -, -, -, -, t9, f9, -, -, -, -, -, k1, k2, k3, -⟩ := hK; exact k3) (fun q9 H locs hI => ?_)
    refine lv_astore_n (lv' := [(2, .ref q9), (0, .ref (A 0 0)), (1, .int n1)]) hx hb d_La_keep_8 rfl hl (by decide) rfl (fun ls hl => ?_)
    refine lv_iconst (v := 1) hx hb d_La_keep_9 (by decide) ?_
    exact gw_iret M hr hlo hI d_La_keep_10 (⟨Or.inl ⟨hpl, rfl⟩, rfl⟩)

abbrev rm_La_bring : Room := { frames := 7, cells := 1, slots := 6, locals := 121 }
set_option maxHeartbeats 4000000 in
set_option maxRecDepth 100000 in
theorem c_La_bring (l : Launch) (htr : l.stackTraces = false) {D : gw_D} {Hs : Heap} {G : gw_G} (A : Nat → Nat → Nat) (pm : Nat → Nat) (cnt fd : Nat) (tt xt li : Nat → Int32) (la : Nat → Int64) (hC : cls D G A pm cnt fd tt xt li la) (n1 : Int32) (ou : Nat) (P : Int64 → Prop) (hU : G ou = some (kL D 1 P))  : Met l y_La_bring (Cond.codeWith y_La_bring b_La_bring 4 (some .int) [(0, 9, 12, 35)] :: tb) rm_La_bring (gw_Pc D Hs G [.ref (A 0 0), .int n1, .ref ou]) (gw_Qi D Hs (fun r G1 => ∃ pm' cnt' fd' tt' xt' li' la' P', cls D G1 A pm' cnt' fd' tt' xt' li' la' ∧ G1 ou = some (kL D 1 P') ∧ gw_fr (ownU A ou) G G1 ∧ pm' = pm ∧ cnt' = cnt ∧ fd' = fd ∧ tt' = tt ∧ xt' = xt ∧ li' = li ∧ la' = la)) 1 6 (gw_A Hs) := by
  refine gw_metW (by decide) (Nat.le_of_ble_eq_true rfl) ?_
  intro p e s m args below meth c M hK hr hlo htab hI ls hl
  have hx := M.1
  have hb := M.2.1
  have hl : lv_has ls 4 [(0, .ref (A 0 0)), (1, .int n1), (2, .ref ou)] := hl
  have hC0 := hC
  have hUo := hU
  refine lv_aload_n hx hb d_La_bring_0 rfl (lv_at hl 2 rfl) ?_
  refine lv_iconst (v := 0) hx hb d_La_bring_1 (by decide) ?_
  refine lv_aload_n hx hb d_La_bring_2 rfl (lv_at hl 0 rfl) ?_
  refine lv_iload_n hx hb d_La_bring_3 rfl (lv_at hl 1 rfl) ?_
  by_cases hpl : okP n1
  · have hIs := hI
    refine gw_Vi (As := [.int n1]) (rest := [.int 0, .ref ou]) M hK hI (c_Gp_bring l A pm cnt fd tt xt li la hC n1 hpl) k_Gp_bring m_La_44 hC.O (ci := 5) rfl (fun x hx => ⟨_, hx⟩) rfl hl.1 rfl (Nat.le_of_ble_eq_true rfl) ⟨rfl, rfl, ⟨Nat.le_of_ble_eq_true rfl, Nat.le_of_ble_eq_true rfl⟩, ⟨Nat.le_of_ble_eq_true rfl, Nat.le_of_ble_eq_true rfl⟩⟩ d_La_bring_4 (fun x1 G2 H locs hw hI => ?_)
    rw [hw] at hI
    have hfr : gw_fr (own A) G G2 := by rw [hw]; exact gw_fr.rf
    have hC : cls D G2 A pm cnt fd tt xt li la := by rw [hw]; exact hC
    rw [← hw] at hI
    have hUo : G2 ou = some (kL D 1 P) := hfr _ _ hU (fun h9 => hC0.nown hIs hU gt_L (Or.inl rfl) h9)
    have hU := hUo
    have hfr : gw_fr (ownU A ou) G G2 := hfr.le (fun b h => Or.inl h)
    refine lv_i2l hx hb d_La_bring_7 rfl ?_
    refine lv_topl (fun x3 e_x3 => ?_)
    obtain ⟨-, x9, ⟨f9, hf9, hq9⟩, hat9⟩ := hI.1.2.2 ou _ hU
    subst hq9
    have hIo := hI
    refine gw_last0 M hK hI hU hat9 (vp_in_nI (n := 0) (by decide) (by decide)) (kL D 1 (fun z => z = x3)) ⟨_, out_0, rfl⟩ d_La_bring_8 (fun H locs hI => ?_)
    obtain ⟨G4, hE_G4⟩ : ∃ z9, gw_up G2 ou (kL D 1 (fun z => z = x3)) = z9 := ⟨_, rfl⟩
    rw [hE_G4] at hI
    have hfu : gw_fr (fun b => b = ou) G2 G4 := by rw [← hE_G4]; exact gw_fr.up rfl
    have hU : G4 ou = some (kL D 1 (fun z => z = x3)) := by rw [← hE_G4]; exact gw_up_s
    have hC := hC.fr hfu (fun k i hk => hC.out hIo hUo gt_L (Or.inl rfl) hk)
    have hfr : gw_fr (ownU A ou) G G4 := hfr.tr (hfu.le (fun b h => Or.inr h))
    refine lv_goto (tgt := 15) hx hb d_La_bring_9 (by decide) ?_
    refine lv_iconst (v := 0) hx hb d_La_bring_15 (by decide) ?_
    refine W.widen (k := 1) (n := 6) (by omega) (by omega) ?_
    exact gw_iret M hr hlo hI d_La_bring_16 (⟨_, _, _, _, _, _, _, _, hC, hU, hfr, rfl, rfl, rfl, rfl, rfl, rfl, rfl⟩)
  · refine xt_try (As := [.int n1]) (rest := [.int 0, .ref ou]) M hK hI (c_Gp_bringx l htr A pm cnt fd tt xt li la hC n1 hpl) (k_Gp_bring : gk_V _ _ _ _ _) m_La_44 hC.O (ci := 5) rfl (fun x hx => ⟨_, hx⟩) rfl hl.1 rfl (Nat.le_of_ble_eq_true rfl) ⟨rfl, rfl, ⟨Nat.le_of_ble_eq_true rfl, Nat.le_of_ble_eq_true rfl⟩, ⟨Nat.le_of_ble_eq_true rfl, Nat.le_of_ble_eq_true rfl⟩⟩ d_La_bring_4 (x := ⟨0, 9, 12, 35⟩) htab (by decide) (by decide) q_La_35 (by obtain ⟨-, -, -, -, -, -, -, t9, f9, -, -, -, -, -, k1, k2, k3, -⟩ := hK; exact k3) (fun q9 H locs hI => ?_)
    refine lv_astore_n (lv' := [(3, .ref q9), (0, .ref (A 0 0)), (1, .int n1), (2, .ref ou)]) hx hb d_La_bring_12 rfl hl (by decide) rfl (fun ls hl => ?_)
    refine lv_iconst (v := 1) hx hb d_La_bring_13 (by decide) ?_
    exact gw_iret M hr hlo hI d_La_bring_14 (⟨_, _, _, _, _, _, _, _, hC, hU, gw_fr.rf, rfl, rfl, rfl, rfl, rfl, rfl, rfl⟩)

theorem n1_of {x : Int32} (h1 : ¬ x < 1) (h8 : x ≤ 8) : ∃ k : Nat, 1 ≤ k ∧ k ≤ 8 ∧ x = nI k := by
  have h0 : ¬ x < 0 := fun q => h1 (by rw [Int32.lt_iff_toInt_lt] at q ⊢; have e0 : (0 : Int32).toInt = 0 := rfl; have e1 : (1 : Int32).toInt = 1 := rfl; omega)
  obtain ⟨k, hk, rfl⟩ := nI_of2 (M := 8) (n := 8) rfl h0 h8
  exact ⟨k, nb_ge' (n := 1) rfl h1, hk, rfl⟩

abbrev rm_La_feed : Room := { frames := 7, cells := 1, slots := 6, locals := 124 }
set_option maxHeartbeats 4000000 in
set_option maxRecDepth 100000 in
theorem c_La_feed (l : Launch) (htr : l.stackTraces = false) {D : gw_D} {Hs : Heap} {G : gw_G} (A : Nat → Nat → Nat) (pm : Nat → Nat) (cnt fd : Nat) (tt xt li : Nat → Int32) (la : Nat → Int64) (hC : cls D G A pm cnt fd tt xt li la) (n1 : Int32) (n2 : Int64) (ou : Nat) (P : Int64 → Prop) (hU : G ou = some (kL D 1 P))  : Met l y_La_feed (Cond.codeWith y_La_feed b_La_feed 6 (some .int) [(0, 11, 14, 13)] :: tb) rm_La_feed (gw_Pc D Hs G [.ref (A 0 0), .int n1, .long n2, .ref ou]) (gw_Qi D Hs (fun r G1 => ∃ pm' cnt' fd' tt' xt' li' la' P', cls D G1 A pm' cnt' fd' tt' xt' li' la' ∧ G1 ou = some (kL D 1 P') ∧ gw_fr (ownU A ou) G G1 ∧ pm' = pm ∧ cnt' = cnt ∧ tt' = tt ∧ xt' = xt ∧ li' = li ∧ la' = la ∧ (((n1 < 1 ∨ ¬ n1 ≤ 8) ∧ r = 1 ∧ fd' = fd) ∨ (¬ (n1 < 1 ∨ ¬ n1 ≤ 8) ∧ r = 0 ∧ ∃ n : Nat, 1 ≤ n ∧ n ≤ 8 ∧ n1 = nI n ∧ ((200 < fd + n ∧ fd' = fd ∧ ∀ z, P' z → z = (-1 : Int32).toInt64) ∨ (fd + n ≤ 200 ∧ fd' = fd + n ∧ ∀ z, P' z → z = (nI (fd + n)).toInt64)))))) 1 6 (gw_A Hs) := by
  refine gw_metW (by decide) (Nat.le_of_ble_eq_true rfl) ?_
  intro p e s m args below meth c M hK hr hlo htab hI ls hl
  have hx := M.1
  have hb := M.2.1
  have hl : lv_has ls 6 [(0, .ref (A 0 0)), (1, .int n1), (2, .long n2), (4, .ref ou)] := hl
  have hC0 := hC
  have hUo := hU
  refine lv_aload hx hb d_La_feed_0 (lv_at hl 3 rfl) ?_
  refine lv_iconst (v := 0) hx hb d_La_feed_2 (by decide) ?_
  refine lv_aload_n hx hb d_La_feed_3 rfl (lv_at hl 0 rfl) ?_
  refine lv_iload_n hx hb d_La_feed_4 rfl (lv_at hl 1 rfl) ?_
  refine lv_lload_n hx hb d_La_feed_5 rfl (lv_at hl 2 rfl) ?_
  by_cases hbad : n1 < 1 ∨ ¬ n1 ≤ 8
  · refine xt_try (As := [.int n1, .long n2]) (rest := [.int 0, .ref ou]) M hK hI (c_Gp_feedx l htr A pm cnt fd tt xt li la hC n1 n2 hbad) (k_Gp_feed : gk_V _ _ _ _ _) m_La_25 hC.O (ci := 5) rfl (fun x hx => ⟨_, hx⟩) rfl hl.1 rfl (Nat.le_of_ble_eq_true rfl) ⟨rfl, rfl, ⟨Nat.le_of_ble_eq_true rfl, Nat.le_of_ble_eq_true rfl⟩, ⟨Nat.le_of_ble_eq_true rfl, Nat.le_of_ble_eq_true rfl⟩⟩ d_La_feed_6 (x := ⟨0, 11, 14, 13⟩) htab (by decide) (by decide) q_La_13 (by obtain ⟨-, -, -, -, -, -, -, t9, f9, -, -, -, -, -, k1, k2, k3, -⟩ := hK; exact k1) (fun q9 H locs hI => ?_)
    refine lv_astore (lv' := [(5, .ref q9), (0, .ref (A 0 0)), (1, .int n1), (2, .long n2), (4, .ref ou)]) hx hb d_La_feed_14 hl (by decide) rfl (fun ls hl => ?_)
    refine lv_iconst (v := 1) hx hb d_La_feed_16 (by decide) ?_
    exact gw_iret M hr hlo hI d_La_feed_17 (⟨_, _, _, _, _, _, _, _, hC, hU, gw_fr.rf, rfl, rfl, rfl, rfl, rfl, rfl, Or.inl ⟨hbad, rfl, rfl⟩⟩)
  · obtain ⟨n, hn⟩ := n1_of (fun h => hbad (Or.inl h)) (Classical.not_not.mp (fun h => hbad (Or.inr h)))
    have hIs := hI
    refine gw_Vi (As := [.int n1, .long n2]) (rest := [.int 0, .ref ou]) M hK hI (c_Gp_feed l A pm cnt fd tt xt li la hC n1 n2 n hn) k_Gp_feed m_La_25 hC.O (ci := 5) rfl (fun x hx => ⟨_, hx⟩) rfl hl.1 rfl (Nat.le_of_ble_eq_true rfl) ⟨rfl, rfl, ⟨Nat.le_of_ble_eq_true rfl, Nat.le_of_ble_eq_true rfl⟩, ⟨Nat.le_of_ble_eq_true rfl, Nat.le_of_ble_eq_true rfl⟩⟩ d_La_feed_6 (fun x1 G2 H locs hw hI => ?_)
    obtain ⟨fd2, hC, hfr, hev⟩ : ∃ fd2, cls D G2 A pm cnt fd2 tt xt li la ∧ gw_fr (own A) G G2 ∧ ((200 < fd + n ∧ fd2 = fd ∧ x1 = -1) ∨ (fd + n ≤ 200 ∧ fd2 = fd + n ∧ x1 = nI (fd + n))) := by
      rcases Nat.lt_or_ge 200 (fd + n) with h1 | h1
      · have h2 := hw.1 h1
        exact ⟨fd, by rw [h2.2]; exact hC, by rw [h2.2]; exact gw_fr.rf, Or.inl ⟨h1, rfl, h2.1⟩⟩
      · have h2 := hw.2 h1
        exact ⟨fd + n, by rw [h2.2]; exact hC.fedup hIs h1, by rw [h2.2]; exact gw_fr.up (Or.inr (Or.inr (Or.inl rfl))), Or.inr ⟨h1, rfl, h2.1⟩⟩
    have hUo : G2 ou = some (kL D 1 P) := hfr _ _ hU (fun h9 => hC0.nown hIs hU gt_L (Or.inl rfl) h9)
    have hU := hUo
    have hfr : gw_fr (ownU A ou) G G2 := hfr.le (fun b h => Or.inl h)
    refine lv_i2l hx hb d_La_feed_9 rfl ?_
    refine lv_topl (fun x3 e_x3 => ?_)
    obtain ⟨-, x9, ⟨f9, hf9, hq9⟩, hat9⟩ := hI.1.2.2 ou _ hU
    subst hq9
    have hIo := hI
    refine gw_last0 M hK hI hU hat9 (vp_in_nI (n := 0) (by decide) (by decide)) (kL D 1 (fun z => z = x3)) ⟨_, out_0, rfl⟩ d_La_feed_10 (fun H locs hI => ?_)
    obtain ⟨G4, hE_G4⟩ : ∃ z9, gw_up G2 ou (kL D 1 (fun z => z = x3)) = z9 := ⟨_, rfl⟩
    rw [hE_G4] at hI
    have hfu : gw_fr (fun b => b = ou) G2 G4 := by rw [← hE_G4]; exact gw_fr.up rfl
    have hU : G4 ou = some (kL D 1 (fun z => z = x3)) := by rw [← hE_G4]; exact gw_up_s
    have hC := hC.fr hfu (fun k i hk => hC.out hIo hUo gt_L (Or.inl rfl) hk)
    have hfr : gw_fr (ownU A ou) G G4 := hfr.tr (hfu.le (fun b h => Or.inr h))
    refine lv_goto (tgt := 18) hx hb d_La_feed_11 (by decide) ?_
    refine lv_iconst (v := 0) hx hb d_La_feed_18 (by decide) ?_
    refine W.widen (k := 1) (n := 6) (by omega) (by omega) ?_
    exact gw_iret M hr hlo hI d_La_feed_19 (⟨_, _, _, _, _, _, _, _, hC, hU, hfr, rfl, rfl, rfl, rfl, rfl, rfl, Or.inr ⟨hbad, rfl, n, hn.1, hn.2.1, hn.2.2, hev.elim (fun h => Or.inl ⟨h.1, h.2.1, fun z hz => by rw [hz, e_x3, h.2.2]⟩) (fun h => Or.inr ⟨h.1, h.2.1, fun z hz => by rw [hz, e_x3, h.2.2]⟩)⟩⟩)

abbrev rm_La_add : Room := { frames := 7, cells := 1, slots := 6, locals := 131 }
set_option maxHeartbeats 4000000 in
set_option maxRecDepth 100000 in
theorem c_La_add (l : Launch) (htr : l.stackTraces = false) {D : gw_D} {Hs : Heap} {G : gw_G} (A : Nat → Nat → Nat) (pm : Nat → Nat) (cnt fd : Nat) (tt xt li : Nat → Int32) (la : Nat → Int64) (hC : cls D G A pm cnt fd tt xt li la) (n1 : Int32) (kh kl : Int64) (n6 n7 n8 : Int32) (h8 : n8 = 0 ∨ n8 = 1) (ou : Nat) (P : Int64 → Prop) (hU : G ou = some (kL D 1 P))  : Met l y_La_add (Cond.codeWith y_La_add b_La_add 11 (some .int) [(0, 26, 29, 13)] :: tb) rm_La_add (gw_Pc D Hs G [.ref (A 0 0), .int n1, .long kh, .long kl, .int n6, .int n7, .int n8, .ref ou]) (gw_Qi D Hs (fun r G1 => ∃ pm' cnt' fd' tt' xt' li' la' P', cls D G1 A pm' cnt' fd' tt' xt' li' la' ∧ G1 ou = some (kL D 1 P') ∧ gw_fr (ownU A ou) G G1 ∧ fd' = fd ∧ (((n1 < 256 ∨ ¬ okW n7) ∧ r = 1 ∧ pm' = pm ∧ cnt' = cnt ∧ tt' = tt ∧ xt' = xt ∧ li' = li ∧ la' = la) ∨ (¬ (n1 < 256 ∨ ¬ okW n7) ∧ r = 0 ∧ ∃ kp, isPl (fun j => tt (pm j)) cnt n1 kp ∧ (((16 ≤ cnt ∨ (kp < cnt ∧ tt (pm kp) = n1)) ∧ pm' = pm ∧ cnt' = cnt ∧ tt' = tt ∧ xt' = xt ∧ li' = li ∧ la' = la ∧ ∀ z, P' z → z = 0) ∨ (¬ (16 ≤ cnt ∨ (kp < cnt ∧ tt (pm kp) = n1)) ∧ pm' = (fun j => pm (si kp cnt j)) ∧ cnt' = cnt + 1 ∧ tt' = fup tt (pm cnt) n1 ∧ xt' = fup xt (pm cnt) n8 ∧ li' = fup li (pm cnt) 1000000000 ∧ la' = fup la (pm cnt) 0 ∧ ∀ z, P' z → z = 1)))))) 1 6 (gw_A Hs) := by
  refine gw_metW (by decide) (Nat.le_of_ble_eq_true rfl) ?_
  intro p e s m args below meth c M hK hr hlo htab hI ls hl
  have hx := M.1
  have hb := M.2.1
  have hl : lv_has ls 11 [(0, .ref (A 0 0)), (1, .int n1), (2, .long kh), (4, .long kl), (6, .int n6), (7, .int n7), (8, .int n8), (9, .ref ou)] := hl
  have hC0 := hC
  have hUo := hU
  refine lv_aload hx hb d_La_add_0 (lv_at hl 7 rfl) ?_
  refine lv_iconst (v := 0) hx hb d_La_add_2 (by decide) ?_
  refine lv_aload_n hx hb d_La_add_3 rfl (lv_at hl 0 rfl) ?_
  refine lv_iload_n hx hb d_La_add_4 rfl (lv_at hl 1 rfl) ?_
  refine lv_lload_n hx hb d_La_add_5 rfl (lv_at hl 2 rfl) ?_
  refine lv_lload hx hb d_La_add_6 (lv_at hl 3 rfl) ?_
  refine lv_iload hx hb d_La_add_8 (lv_at hl 4 rfl) ?_
  refine lv_iload hx hb d_La_add_10 (lv_at hl 5 rfl) ?_
  refine lv_iload hx hb d_La_add_12 (lv_at hl 6 rfl) ?_
  by_cases hbad : n1 < 256 ∨ ¬ okW n7
  · refine xt_try (As := [.int n1, .long kh, .long kl, .int n6, .int n7, .int n8]) (rest := [.int 0, .ref ou]) M hK hI (c_Gp_addx l htr A pm cnt fd tt xt li la hC n1 kh kl n6 n7 n8 hbad) (k_Gp_add : gk_V _ _ _ _ _) m_La_7 hC.O (ci := 5) rfl (fun x hx => ⟨_, hx⟩) rfl hl.1 rfl (Nat.le_of_ble_eq_true rfl) ⟨rfl, rfl, ⟨Nat.le_of_ble_eq_true rfl, Nat.le_of_ble_eq_true rfl⟩, ⟨Nat.le_of_ble_eq_true rfl, Nat.le_of_ble_eq_true rfl⟩⟩ d_La_add_14 (x := ⟨0, 26, 29, 13⟩) htab (by decide) (by decide) q_La_13 (by obtain ⟨-, -, -, -, -, -, -, t9, f9, -, -, -, -, -, k1, k2, k3, -⟩ := hK; exact k1) (fun q9 H locs hI => ?_)
    refine lv_astore (lv' := [(10, .ref q9), (0, .ref (A 0 0)), (1, .int n1), (2, .long kh), (4, .long kl), (6, .int n6), (7, .int n7), (8, .int n8), (9, .ref ou)]) hx hb d_La_add_29 hl (by decide) rfl (fun ls hl => ?_)
    refine lv_iconst (v := 1) hx hb d_La_add_31 (by decide) ?_
    exact gw_iret M hr hlo hI d_La_add_32 (⟨_, _, _, _, _, _, _, _, hC, hU, gw_fr.rf, rfl, Or.inl ⟨hbad, rfl, rfl, rfl, rfl, rfl, rfl, rfl⟩⟩)
  · have hok : ¬ n1 < 256 ∧ okW n7 := ⟨fun h => hbad (Or.inl h), Classical.not_not.mp (fun h => hbad (Or.inr h))⟩
    obtain ⟨kp, hkp⟩ := isPl.ex (fun j => tt (pm j)) n1 cnt
    by_cases hful : 16 ≤ cnt ∨ (kp < cnt ∧ tt (pm kp) = n1)
    · have hIs := hI
      refine gw_Vi (As := [.int n1, .long kh, .long kl, .int n6, .int n7, .int n8]) (rest := [.int 0, .ref ou]) M hK hI (c_Gp_addf l A pm cnt fd tt xt li la hC n1 kh kl n6 n7 n8 hok kp hkp hful) k_Gp_add m_La_7 hC.O (ci := 5) rfl (fun x hx => ⟨_, hx⟩) rfl hl.1 rfl (Nat.le_of_ble_eq_true rfl) ⟨rfl, rfl, ⟨Nat.le_of_ble_eq_true rfl, Nat.le_of_ble_eq_true rfl⟩, ⟨Nat.le_of_ble_eq_true rfl, Nat.le_of_ble_eq_true rfl⟩⟩ d_La_add_14 (fun x1 G2 H locs hw hI => ?_)
      obtain ⟨h_x1, hw⟩ := hw
      subst h_x1
      rw [hw] at hI
      have hfr : gw_fr (own A) G G2 := by rw [hw]; exact gw_fr.rf
      have hC : cls D G2 A pm cnt fd tt xt li la := by rw [hw]; exact hC
      rw [← hw] at hI
      have hUo : G2 ou = some (kL D 1 P) := hfr _ _ hU (fun h9 => hC0.nown hIs hU gt_L (Or.inl rfl) h9)
      have hU := hUo
      have hfr : gw_fr (ownU A ou) G G2 := hfr.le (fun b h => Or.inl h)
      refine lv_if_eq (tgt := 24) hx hb d_La_add_17 (by decide) (fun c_17 => ?_) (fun q9 => absurd (by decide) q9)
      refine lv_lconst (v := 0) hx hb d_La_add_24 (by decide) ?_
      obtain ⟨-, x9, ⟨f9, hf9, hq9⟩, hat9⟩ := hI.1.2.2 ou _ hU
      subst hq9
      have hIo := hI
      refine gw_last0 M hK hI hU hat9 (vp_in_nI (n := 0) (by decide) (by decide)) (kL D 1 (fun z => z = (0 : Int64))) ⟨_, out_0, rfl⟩ d_La_add_25 (fun H locs hI => ?_)
      obtain ⟨G3, hE_G3⟩ : ∃ z9, gw_up G2 ou (kL D 1 (fun z => z = (0 : Int64))) = z9 := ⟨_, rfl⟩
      rw [hE_G3] at hI
      have hfu : gw_fr (fun b => b = ou) G2 G3 := by rw [← hE_G3]; exact gw_fr.up rfl
      have hU : G3 ou = some (kL D 1 (fun z => z = (0 : Int64))) := by rw [← hE_G3]; exact gw_up_s
      have hC := hC.fr hfu (fun k i hk => hC.out hIo hUo gt_L (Or.inl rfl) hk)
      have hfr : gw_fr (ownU A ou) G G3 := hfr.tr (hfu.le (fun b h => Or.inr h))
      refine lv_goto (tgt := 33) hx hb d_La_add_26 (by decide) ?_
      refine lv_iconst (v := 0) hx hb d_La_add_33 (by decide) ?_
      refine W.widen (k := 1) (n := 6) (by omega) (by omega) ?_
      exact gw_iret M hr hlo hI d_La_add_34 (⟨_, _, _, _, _, _, _, _, hC, hU, hfr, rfl, Or.inr ⟨hbad, rfl, kp, hkp, Or.inl ⟨hful, rfl, rfl, rfl, rfl, rfl, rfl, fun z hz => hz⟩⟩⟩)
    · have hIs := hI
      refine gw_Vi (As := [.int n1, .long kh, .long kl, .int n6, .int n7, .int n8]) (rest := [.int 0, .ref ou]) M hK hI (c_Gp_add l A pm cnt fd tt xt li la hC n1 kh kl n6 n7 n8 hok kp hkp h8 (Nat.not_le.mp (fun h => hful (Or.inl h))) (fun h => hful (Or.inr h))) k_Gp_add m_La_7 hC.O (ci := 5) rfl (fun x hx => ⟨_, hx⟩) rfl hl.1 rfl (Nat.le_of_ble_eq_true rfl) ⟨rfl, rfl, ⟨Nat.le_of_ble_eq_true rfl, Nat.le_of_ble_eq_true rfl⟩, ⟨Nat.le_of_ble_eq_true rfl, Nat.le_of_ble_eq_true rfl⟩⟩ d_La_add_14 (fun x4 G5 H locs hw hI => ?_)
      obtain ⟨h_x4, hC, hfr⟩ := hw
      subst h_x4
      have hUo : G5 ou = some (kL D 1 P) := hfr _ _ hU (fun h9 => hC0.nown hIs hU gt_L (Or.inl rfl) h9)
      have hU := hUo
      have hfr : gw_fr (ownU A ou) G G5 := hfr.le (fun b h => Or.inl h)
      refine lv_if_eq (tgt := 24) hx hb d_La_add_17 (by decide) (fun q9 => absurd q9 (by decide)) (fun c_17 => ?_)
      refine lv_lconst (v := 1) hx hb d_La_add_20 (by decide) ?_
      refine lv_goto (tgt := 25) hx hb d_La_add_21 (by decide) ?_
      obtain ⟨-, x9, ⟨f9, hf9, hq9⟩, hat9⟩ := hI.1.2.2 ou _ hU
      subst hq9
      have hIo := hI
      refine gw_last0 M hK hI hU hat9 (vp_in_nI (n := 0) (by decide) (by decide)) (kL D 1 (fun z => z = (1 : Int64))) ⟨_, out_0, rfl⟩ d_La_add_25 (fun H locs hI => ?_)
      obtain ⟨G6, hE_G6⟩ : ∃ z9, gw_up G5 ou (kL D 1 (fun z => z = (1 : Int64))) = z9 := ⟨_, rfl⟩
      rw [hE_G6] at hI
      have hfu : gw_fr (fun b => b = ou) G5 G6 := by rw [← hE_G6]; exact gw_fr.up rfl
      have hU : G6 ou = some (kL D 1 (fun z => z = (1 : Int64))) := by rw [← hE_G6]; exact gw_up_s
      have hC := hC.fr hfu (fun k i hk => hC.out hIo hUo gt_L (Or.inl rfl) hk)
      have hfr : gw_fr (ownU A ou) G G6 := hfr.tr (hfu.le (fun b h => Or.inr h))
      refine lv_goto (tgt := 33) hx hb d_La_add_26 (by decide) ?_
      refine lv_iconst (v := 0) hx hb d_La_add_33 (by decide) ?_
      refine W.widen (k := 1) (n := 6) (by omega) (by omega) ?_
      exact gw_iret M hr hlo hI d_La_add_34 (⟨_, _, _, _, _, _, _, _, hC, hU, hfr, rfl, Or.inr ⟨hbad, rfl, kp, hkp, Or.inr ⟨hful, rfl, rfl, rfl, rfl, rfl, rfl, fun z hz => hz⟩⟩⟩)

abbrev rm_La_spoil : Room := { frames := 7, cells := 1, slots := 6, locals := 123 }
set_option maxHeartbeats 4000000 in
set_option maxRecDepth 100000 in
theorem c_La_spoil (l : Launch) (htr : l.stackTraces = false) {D : gw_D} {Hs : Heap} {G : gw_G} (A : Nat → Nat → Nat) (pm : Nat → Nat) (cnt fd : Nat) (tt xt li : Nat → Int32) (la : Nat → Int64) (hC : cls D G A pm cnt fd tt xt li la) (n1 n2 : Int32) (ou : Nat) (P : Int64 → Prop) (hU : G ou = some (kL D 1 P))  : Met l y_La_spoil (Cond.codeWith y_La_spoil b_La_spoil 5 (some .int) [(0, 10, 13, 35), (0, 10, 17, 13)] :: tb) rm_La_spoil (gw_Pc D Hs G [.ref (A 0 0), .int n1, .int n2, .ref ou]) (gw_Qi D Hs (fun r G1 => ∃ pm' cnt' fd' tt' xt' li' la' P', cls D G1 A pm' cnt' fd' tt' xt' li' la' ∧ G1 ou = some (kL D 1 P') ∧ gw_fr (ownU A ou) G G1 ∧ pm' = pm ∧ cnt' = cnt ∧ fd' = fd ∧ tt' = tt ∧ xt' = xt ∧ li' = li ∧ la' = la)) 1 6 (gw_A Hs) := by
  refine gw_metW (by decide) (Nat.le_of_ble_eq_true rfl) ?_
  intro p e s m args below meth c M hK hr hlo htab hI ls hl
  have hx := M.1
  have hb := M.2.1
  have hl : lv_has ls 5 [(0, .ref (A 0 0)), (1, .int n1), (2, .int n2), (3, .ref ou)] := hl
  have hC0 := hC
  have hUo := hU
  refine lv_aload_n hx hb d_La_spoil_0 rfl (lv_at hl 3 rfl) ?_
  refine lv_iconst (v := 0) hx hb d_La_spoil_1 (by decide) ?_
  refine lv_aload_n hx hb d_La_spoil_2 rfl (lv_at hl 0 rfl) ?_
  refine lv_iload_n hx hb d_La_spoil_3 rfl (lv_at hl 1 rfl) ?_
  refine lv_iload_n hx hb d_La_spoil_4 rfl (lv_at hl 2 rfl) ?_
  have hIs := hI
  obtain ⟨e9, ⟨u1, u2, ⟨sl, hsl, hu1⟩, hu2, hq9⟩, hP9⟩ := hI.1.opn hC.sent
  subst hu1
  subst hq9
  obtain ⟨Gs, hGs⟩ : ∃ z9, gw_up G (A 3 0) (kx (.inr (3, [.ref (A 9 0), .int (nI sl), .int u2]))) = z9 := ⟨_, rfl⟩
  have hI : gw_I D Hs Gs s.heap s.heap [] := by rw [← hGs]; exact ⟨hP9, hI.2⟩
  have hOs : Gs (A 0 0) = some (kGp A cnt) := by rw [← hGs, gw_up_n (gw_nec hIs hC.O hC.sent gt_Gp gt_Ro (by decide))]; exact hC.O
  by_cases hok : ¬ n1 < 0 ∧ n1 < nI sl
  · by_cases hby : okB n2
    · refine gw_Vi (As := [.int n1, .int n2]) (rest := [.int 0, .ref ou]) M hK hI (c_Gp_spoil l sl hsl u2 hu2 A pm cnt fd tt xt li la hC hGs.symm hOs n1 n2 hok hby) k_Gp_spoil m_La_32 hOs (ci := 5) rfl (fun x hx => ⟨_, hx⟩) rfl hl.1 rfl (Nat.le_of_ble_eq_true rfl) ⟨rfl, rfl, ⟨Nat.le_of_ble_eq_true rfl, Nat.le_of_ble_eq_true rfl⟩, ⟨Nat.le_of_ble_eq_true rfl, Nat.le_of_ble_eq_true rfl⟩⟩ d_La_spoil_5 (fun x1 G2 H locs hw hI => ?_)
      rw [hw] at hI
      have hfr : gw_fr (own A) G G2 := by rw [hw]; exact gw_fr.rf
      have hC : cls D G2 A pm cnt fd tt xt li la := by rw [hw]; exact hC
      rw [← hw] at hI
      have hUo : G2 ou = some (kL D 1 P) := by rw [hw]; exact hU
      have hU := hUo
      have hfr : gw_fr (ownU A ou) G G2 := hfr.le (fun b h => Or.inl h)
      refine lv_i2l hx hb d_La_spoil_8 rfl ?_
      refine lv_topl (fun x3 e_x3 => ?_)
      obtain ⟨-, x9, ⟨f9, hf9, hq9⟩, hat9⟩ := hI.1.2.2 ou _ hU
      subst hq9
      have hIo := hI
      refine gw_last0 M hK hI hU hat9 (vp_in_nI (n := 0) (by decide) (by decide)) (kL D 1 (fun z => z = x3)) ⟨_, out_0, rfl⟩ d_La_spoil_9 (fun H locs hI => ?_)
      obtain ⟨G4, hE_G4⟩ : ∃ z9, gw_up G2 ou (kL D 1 (fun z => z = x3)) = z9 := ⟨_, rfl⟩
      rw [hE_G4] at hI
      have hfu : gw_fr (fun b => b = ou) G2 G4 := by rw [← hE_G4]; exact gw_fr.up rfl
      have hU : G4 ou = some (kL D 1 (fun z => z = x3)) := by rw [← hE_G4]; exact gw_up_s
      have hC := hC.fr hfu (fun k i hk => hC.out hIo hUo gt_L (Or.inl rfl) hk)
      have hfr : gw_fr (ownU A ou) G G4 := hfr.tr (hfu.le (fun b h => Or.inr h))
      refine lv_goto (tgt := 21) hx hb d_La_spoil_10 (by decide) ?_
      refine lv_iconst (v := 0) hx hb d_La_spoil_21 (by decide) ?_
      refine W.widen (k := 1) (n := 6) (by omega) (by omega) ?_
      exact gw_iret M hr hlo hI d_La_spoil_22 (⟨_, _, _, _, _, _, _, _, hC, hU, hfr, rfl, rfl, rfl, rfl, rfl, rfl, rfl⟩)
    · refine xt_try2 (As := [.int n1, .int n2]) (rest := [.int 0, .ref ou]) M hK hI (c_Gp_spoily l htr sl hsl u2 hu2 A pm cnt fd tt xt li la hC hGs.symm hOs n1 n2 hok hby) (k_Gp_spoil : gk_V _ _ _ _ _) m_La_32 hOs (ci := 5) rfl (fun x hx => ⟨_, hx⟩) rfl hl.1 rfl (Nat.le_of_ble_eq_true rfl) ⟨rfl, rfl, ⟨Nat.le_of_ble_eq_true rfl, Nat.le_of_ble_eq_true rfl⟩, ⟨Nat.le_of_ble_eq_true rfl, Nat.le_of_ble_eq_true rfl⟩⟩ d_La_spoil_5 (x1 := ⟨0, 10, 13, 35⟩) (x2 := ⟨0, 10, 17, 13⟩) htab (by decide) (by decide) (by decide) (by decide) q_La_35 q_La_13 (by obtain ⟨-, -, -, -, -, -, -, t9, f9, -, -, -, -, -, k1, k2, k3, -⟩ := hK; exact k1) (by obtain ⟨-, -, -, -, -, -, -, t9, f9, -, -, -, -, -, -, -, -, -, -, n1, n2⟩ := hK; exact n2) (fun q9 H locs hI => ?_)
      have hI : gw_I D Hs G s.heap _ _ := ⟨gw_P.close (a := A 3 0) (by rw [← hGs] at hI; exact hI.1) hC.sent (fun e h => ⟨_, _, ⟨sl, hsl, rfl⟩, hu2, h⟩), hI.2⟩
      refine lv_astore (lv' := [(4, .ref q9), (0, .ref (A 0 0)), (1, .int n1), (2, .int n2), (3, .ref ou)]) hx hb d_La_spoil_17 hl (by decide) rfl (fun ls hl => ?_)
      refine lv_iconst (v := 2) hx hb d_La_spoil_19 (by decide) ?_
      exact gw_iret M hr hlo hI d_La_spoil_20 (⟨_, _, _, _, _, _, _, _, hC, hU, gw_fr.rf, rfl, rfl, rfl, rfl, rfl, rfl, rfl⟩)
  · refine xt_try (As := [.int n1, .int n2]) (rest := [.int 0, .ref ou]) M hK hI (c_Gp_spoilx l htr sl hsl u2 hu2 A pm cnt fd tt xt li la hC hGs.symm hOs n1 n2 (Classical.byContradiction (fun h => hok ⟨fun h1 => h (Or.inl h1), Classical.not_not.mp (fun h1 => h (Or.inr h1))⟩))) (k_Gp_spoil : gk_V _ _ _ _ _) m_La_32 hOs (ci := 5) rfl (fun x hx => ⟨_, hx⟩) rfl hl.1 rfl (Nat.le_of_ble_eq_true rfl) ⟨rfl, rfl, ⟨Nat.le_of_ble_eq_true rfl, Nat.le_of_ble_eq_true rfl⟩, ⟨Nat.le_of_ble_eq_true rfl, Nat.le_of_ble_eq_true rfl⟩⟩ d_La_spoil_5 (x := ⟨0, 10, 13, 35⟩) htab (by decide) (by decide) q_La_35 (by obtain ⟨-, -, -, -, -, -, -, t9, f9, -, -, -, -, -, k1, k2, k3, -⟩ := hK; exact k3) (fun q9 H locs hI => ?_)
    have hI : gw_I D Hs G s.heap _ _ := ⟨gw_P.close (a := A 3 0) (by rw [← hGs] at hI; exact hI.1) hC.sent (fun e h => ⟨_, _, ⟨sl, hsl, rfl⟩, hu2, h⟩), hI.2⟩
    refine lv_astore (lv' := [(4, .ref q9), (0, .ref (A 0 0)), (1, .int n1), (2, .int n2), (3, .ref ou)]) hx hb d_La_spoil_13 hl (by decide) rfl (fun ls hl => ?_)
    refine lv_iconst (v := 1) hx hb d_La_spoil_15 (by decide) ?_
    exact gw_iret M hr hlo hI d_La_spoil_16 (⟨_, _, _, _, _, _, _, _, hC, hU, gw_fr.rf, rfl, rfl, rfl, rfl, rfl, rfl, rfl⟩)

abbrev rm_La_cut : Room := { frames := 7, cells := 1, slots := 6, locals := 121 }
set_option maxHeartbeats 4000000 in
set_option maxRecDepth 100000 in
theorem c_La_cut (l : Launch) (htr : l.stackTraces = false) {D : gw_D} {Hs : Heap} {G : gw_G} (A : Nat → Nat → Nat) (pm : Nat → Nat) (cnt fd : Nat) (tt xt li : Nat → Int32) (la : Nat → Int64) (hC : cls D G A pm cnt fd tt xt li la) (n1 : Int32)  : Met l y_La_cut (Cond.codeWith y_La_cut b_La_cut 3 (some .int) [(0, 5, 8, 13)] :: tb) rm_La_cut (gw_Pc D Hs G [.ref (A 0 0), .int n1]) (gw_Qi D Hs (fun r G1 => G1 = G)) 1 6 (gw_A Hs) := by
  refine gw_metW (by decide) (Nat.le_of_ble_eq_true rfl) ?_
  intro p e s m args below meth c M hK hr hlo htab hI ls hl
  have hx := M.1
  have hb := M.2.1
  have hl : lv_has ls 3 [(0, .ref (A 0 0)), (1, .int n1)] := hl
  have hC0 := hC
  refine lv_aload_n hx hb d_La_cut_0 rfl (lv_at hl 0 rfl) ?_
  refine lv_iload_n hx hb d_La_cut_1 rfl (lv_at hl 1 rfl) ?_
  have hIs := hI
  obtain ⟨e9, ⟨u1, u2, ⟨sl, hsl, hu1⟩, hu2, hq9⟩, hP9⟩ := hI.1.opn hC.sent
  subst hu1
  subst hq9
  obtain ⟨Gs, hGs⟩ : ∃ z9, gw_up G (A 3 0) (kx (.inr (3, [.ref (A 9 0), .int (nI sl), .int u2]))) = z9 := ⟨_, rfl⟩
  have hI : gw_I D Hs Gs s.heap s.heap [] := by rw [← hGs]; exact ⟨hP9, hI.2⟩
  have hOs : Gs (A 0 0) = some (kGp A cnt) := by rw [← hGs, gw_up_n (gw_nec hIs hC.O hC.sent gt_Gp gt_Ro (by decide))]; exact hC.O
  by_cases hok : ¬ n1 < 0 ∧ n1 ≤ nI sl
  · refine gw_Vv (As := [.int n1]) (rest := []) M hK hI (c_Gp_cut l sl hsl u2 hu2 A pm cnt fd tt xt li la hC hGs.symm hOs n1 hok) k_Gp_cut m_La_37 hOs (ci := 5) rfl (fun x hx => ⟨_, hx⟩) rfl hl.1 rfl (Nat.le_of_ble_eq_true rfl) ⟨rfl, rfl, ⟨Nat.le_of_ble_eq_true rfl, Nat.le_of_ble_eq_true rfl⟩, ⟨Nat.le_of_ble_eq_true rfl, Nat.le_of_ble_eq_true rfl⟩⟩ d_La_cut_2 (fun G1 H locs hw hI => ?_)
    refine lv_goto (tgt := 11) hx hb d_La_cut_5 (by decide) ?_
    refine lv_iconst (v := 0) hx hb d_La_cut_11 (by decide) ?_
    refine W.widen (k := 1) (n := 6) (by omega) (by omega) ?_
    exact gw_iret M hr hlo hI d_La_cut_12 hw
  · refine xt_try (As := [.int n1]) (rest := []) M hK hI (c_Gp_cutx l htr sl hsl u2 hu2 A pm cnt fd tt xt li la hC hGs.symm hOs n1 (Classical.byContradiction (fun h => hok ⟨fun h1 => h (Or.inl h1), Classical.not_not.mp (fun h1 => h (Or.inr h1))⟩))) (k_Gp_cut : gk_V _ _ _ _ _) m_La_37 hOs (ci := 5) rfl (fun x hx => ⟨_, hx⟩) rfl hl.1 rfl (Nat.le_of_ble_eq_true rfl) ⟨rfl, rfl, ⟨Nat.le_of_ble_eq_true rfl, Nat.le_of_ble_eq_true rfl⟩, ⟨Nat.le_of_ble_eq_true rfl, Nat.le_of_ble_eq_true rfl⟩⟩ d_La_cut_2 (x := ⟨0, 5, 8, 13⟩) htab (by decide) (by decide) q_La_13 (by obtain ⟨-, -, -, -, -, -, -, t9, f9, -, -, -, -, -, k1, k2, k3, -⟩ := hK; exact k1) (fun q9 H locs hI => ?_)
    have hI : gw_I D Hs G s.heap _ _ := ⟨gw_P.close (a := A 3 0) (by rw [← hGs] at hI; exact hI.1) hC.sent (fun e h => ⟨_, _, ⟨sl, hsl, rfl⟩, hu2, h⟩), hI.2⟩
    refine lv_astore_n (lv' := [(2, .ref q9), (0, .ref (A 0 0)), (1, .int n1)]) hx hb d_La_cut_8 rfl hl (by decide) rfl (fun ls hl => ?_)
    refine lv_iconst (v := 1) hx hb d_La_cut_9 (by decide) ?_
    exact gw_iret M hr hlo hI d_La_cut_10 rfl
