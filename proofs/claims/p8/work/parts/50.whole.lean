theorem law_in {L j : Nat} (hL : L ≤ 4608) (h : 9 * j + 9 ≤ L) : ¬ nI L - 9 < nI (9 * j) := fun q => by
  have e : nI L - 9 = nI (L - 9) := pk_sub (b := 9) (by omega)
  rw [e, Int32.lt_iff_toInt_lt, nI_toInt (by omega), nI_toInt (by omega)] at q
  omega
theorem law_out {L j : Nat} (hL : L ≤ 4608) (hj : 9 * j ≤ L) (h : L < 9 * j + 9) : nI L - 9 < nI (9 * j) := by
  rcases Nat.lt_or_ge L 9 with h9 | h9
  · have e : j = 0 := by omega
    subst e
    exact pk_sneg (a := L) (b := 9) (by decide) h9
  · have e : nI L - 9 = nI (L - 9) := pk_sub (b := 9) h9
    rw [e, Int32.lt_iff_toInt_lt, nI_toInt (by omega), nI_toInt (by omega)]
    omega
theorem mdl.has {D : gw_D} {G : gw_G} {o : Nat} {q : Nat → Nat} {B : Nat} {t : Int32} {f l g : Nat} {fu fn fx fi : Nat → Int32} {fl : Nat → Int64} (h : mdl D G o q B t f l g fu fn fx fi fl) {b : Nat} (hb : mown o q b) : ∃ K, G b = some K := by
  rcases hb with e | ⟨k, hk, e⟩
  · rw [e]; exact ⟨_, h.O⟩
  · rw [e]; exact ⟨_, (h.2.1 k hk).1⟩

set_option maxHeartbeats 4000000 in
set_option maxRecDepth 100000 in
theorem law_loop {p : Program} {l : Launch} {e : Env} {s : State} {m : MethodId} {below : List Frame} {meth : Method} {c : Code} {b L : Nat} {xs : Nat → Int32} (C0 : lw_At p s m meth c b L xs) (htr : l.stackTraces = false) {D : gw_D} (hK : gw_K D s.heap s) (hL : L ≤ 4608) {A : Nat → Nat → Nat} {o ou : Nat} {q : Nat → Nat} (hap : ∀ k i, inA k i → ¬ mown o q (A k i)) (hmu : ¬ mown o q ou) : ∀ (n j : Nat) (G : gw_G) (H : Heap) (locs : List Loc) (ls : Array Slot) (pm : Nat → Nat) (cnt fd : Nat) (tt xt li : Nat → Int32) (la : Nat → Int64) (B : Nat) (t0 : Int32) (f0 l0 g0 : Nat) (fu fn fx fi : Nat → Int32) (fl : Nat → Int64) (P : Int64 → Prop), L - 9 * j < n → 9 * j ≤ L → B ≤ j → cls D G A pm cnt fd tt xt li la → mdl D G o q B t0 f0 l0 g0 fu fn fx fi fl → G ou = some (kL D 1 P) → tie pm cnt fd tt xt li la t0 f0 l0 fu fn fx fi fl → gw_I D s.heap G s.heap H locs → lv_has ls 8 [(4, .int (nI (9 * j))), (3, .ref ou), (2, .ref o), (1, .ref (A 0 0)), (0, .ref b)] → W p l e room_1 s m #[Value.ref b] below meth c H locs (300 + j) (70000 + 6 * j) (lw_Z below #[Value.ref b] s) (F0 m 23 ls []) := by
  obtain ⟨hx, hb, hr, hml, hown, hts, hX, hbl, hlocks, hgv⟩ := id C0
  have M : CallFix p m c b_La_law 8 s #[Value.ref b] tb R_La := ⟨hx, hb, hml, hown, fun w h => hts w (tb_in h)⟩
  have hbA : ¬ gw_A s.heap b := Nat.not_le.mpr hbl
  intro n
  induction n with
  | zero => intro j G H locs ls pm cnt fd tt xt li la B t0 f0 l0 g0 fu fn fx fi fl P hm; exact absurd hm (Nat.not_lt_zero _)
  | succ n ih =>
    intro j G H locs ls pm cnt fd tt xt li la B t0 f0 l0 g0 fu fn fx fi fl P hm hj hB hC hM hU hT hI hl
    refine lv_iload hx hb d_La_law_23 (lv_at hl 0 rfl) ?_
    refine lv_aload_n hx hb d_La_law_25 rfl (lv_at hl 4 rfl) ?_
    refine va_slen hx hb hX hbl hbA hI.2 d_La_law_26 ?_
    refine lv_bipush (v := 9) hx hb d_La_law_27 (by decide) ?_
    refine lv_isub hx hb d_La_law_29 ?_
    rcases Nat.lt_or_ge L (9 * j + 9) with h9 | h9
    · refine lv_icmp_gt (tgt := 911) hx hb d_La_law_30 (by decide) (fun c_30 => ?_) (fun q9 => absurd (law_out hL hj h9) q9)
      refine lv_iconst (v := 1) hx hb d_La_law_911 (by decide) ?_
      refine va_forget (fun q hq => hI.2.2.2 q hq) ?_
      refine W.widen (k := 601024) (n := 7293034) (by omega) (by omega) ?_
      exact lw_ret hx hb hr hlocks d_La_law_912
    · refine lv_icmp_gt (tgt := 911) hx hb d_La_law_30 (by decide) (fun q9 => absurd q9 (law_in hL h9)) (fun c_30 => ?_)
      have kk : lwK p l e s m below meth c b D A o q ou (nI (9 * j)) (300 + j) (70000 + 6 * j) B := by
        intro G H locs ls pm cnt fd tt xt li la B1 t0 f0 l0 g0 fu fn fx fi fl P hB1 hC hM hU hT hI hl
        refine lv_iinc (v := nI (9 * (j + 1))) (lv' := [(4, .int (nI (9 * (j + 1)))), (3, .ref ou), (2, .ref o), (1, .ref (A 0 0)), (0, .ref b)]) hx hb d_La_law_905 hl (k := 0) rfl (by rw [show nI (9 * (j + 1)) = nI (9 * j) + 9 from (nI_add (9 * j) 9).symm]; rfl) (by decide) rfl (fun ls hl => ?_)
        refine lv_goto (tgt := 23) hx hb d_La_law_908 (by decide) ?_
        refine W.widen (k := 300 + (j + 1)) (n := 70000 + 6 * (j + 1)) (by omega) (by omega) ?_
        exact ih (j + 1) G H locs ls pm cnt fd tt xt li la B1 t0 f0 l0 g0 fu fn fx fi fl P (by omega) (by omega) (by omega) hC hM hU hT hI hl
      refine lv_aload_n hx hb d_La_law_33 rfl (lv_at hl 4 rfl) ?_
      refine lv_iload hx hb d_La_law_34 (lv_at hl 0 rfl) ?_
      refine va_sld hx hb hX hbl hbA hI.2 (vp_in_nI (by omega) (by omega)) d_La_law_36 ?_
      refine lv_bipush (v := 31) hx hb d_La_law_37 (by decide) ?_
      refine lv_iand hx hb d_La_law_39 ?_
      refine lv_topi (fun v ev => ?_)
      obtain ⟨i, hi, hiv⟩ := pk_andE (xs (nI (9 * j)).toNatClampNeg) (m := 31) 5 rfl
      have hv : v = nI i := ev.trans hiv
      clear ev hiv
      subst hv
      match i, hi with
      | 0, _ => exact lv_tableIn (tgt := 132) hx hb d_La_law_40 (by decide) (by decide) (off := 92) rfl (by decide) (law_0 C0 htr hK hL hC hM hU hap hmu hT (by omega) rfl h9 (by omega) (by omega) kk hI ls hl)
      | 1, _ => exact lv_tableIn (tgt := 306) hx hb d_La_law_40 (by decide) (by decide) (off := 266) rfl (by decide) (law_1 C0 htr hK hL hC hM hU hap hmu hT (by omega) rfl h9 (by omega) (by omega) kk hI ls hl)
      | 2, _ => exact lv_tableIn (tgt := 331) hx hb d_La_law_40 (by decide) (by decide) (off := 291) rfl (by decide) (law_2 C0 htr hK hL hC hM hU hap hmu hT (by omega) rfl h9 (by omega) (by omega) kk hI ls hl)
      | 3, _ => exact lv_tableIn (tgt := 400) hx hb d_La_law_40 (by decide) (by decide) (off := 360) rfl (by decide) (law_3 C0 htr hK hL hC hM hU hap hmu hT (by omega) rfl h9 (by omega) (by omega) kk hI ls hl)
      | 4, _ => exact lv_tableIn (tgt := 440) hx hb d_La_law_40 (by decide) (by decide) (off := 400) rfl (by decide) (law_4 C0 htr hK hL hC hM hU hap hmu hT (by omega) rfl h9 (by omega) (by omega) kk hI ls hl)
      | 5, _ => exact lv_tableIn (tgt := 512) hx hb d_La_law_40 (by decide) (by decide) (off := 472) rfl (by decide) (law_5 C0 htr hK hL hC hM hU hap hmu hT (by omega) rfl h9 (by omega) (by omega) kk hI ls hl)
      | 6, _ => exact lv_tableIn (tgt := 525) hx hb d_La_law_40 (by decide) (by decide) (off := 485) rfl (by decide) (law_6 C0 htr hK hL hC hM hU hap hmu hT (by omega) rfl h9 (by omega) (by omega) kk hI ls hl)
      | 7, _ => exact lv_tableIn (tgt := 593) hx hb d_La_law_40 (by decide) (by decide) (off := 553) rfl (by decide) (law_7 C0 htr hK hL hC hM hU hap hmu hT (by omega) rfl h9 (by omega) (by omega) kk hI ls hl)
      | 8, _ => exact lv_tableIn (tgt := 606) hx hb d_La_law_40 (by decide) (by decide) (off := 566) rfl (by decide) (law_8 C0 htr hK hL hC hM hU hap hmu hT (by omega) rfl h9 (by omega) (by omega) kk hI ls hl)
      | 9, _ => exact lv_tableIn (tgt := 631) hx hb d_La_law_40 (by decide) (by decide) (off := 591) rfl (by decide) (law_9 C0 htr hK hL hC hM hU hap hmu hT (by omega) rfl h9 (by omega) (by omega) kk hI ls hl)
      | 10, _ => exact lv_tableIn (tgt := 671) hx hb d_La_law_40 (by decide) (by decide) (off := 631) rfl (by decide) (law_10 C0 htr hK hL hC hM hU hap hmu hT (by omega) rfl h9 (by omega) (by omega) kk hI ls hl)
      | 11, _ => exact lv_tableIn (tgt := 696) hx hb d_La_law_40 (by decide) (by decide) (off := 656) rfl (by decide) (law_11 C0 htr hK hL hC hM hU hap hmu hT (by omega) rfl h9 (by omega) (by omega) kk hI ls hl)
      | 12, _ => exact lv_tableIn (tgt := 721) hx hb d_La_law_40 (by decide) (by decide) (off := 681) rfl (by decide) (law_12 C0 htr hK hL hC hM hU hap hmu hT (by omega) rfl h9 (by omega) (by omega) kk hI ls hl)
      | 13, _ => exact lv_tableIn (tgt := 749) hx hb d_La_law_40 (by decide) (by decide) (off := 709) rfl (by decide) (law_13 C0 htr hK hL hC hM hU hap hmu hT (by omega) rfl h9 (by omega) (by omega) kk hI ls hl)
      | 14, _ => exact lv_tableIn (tgt := 762) hx hb d_La_law_40 (by decide) (by decide) (off := 722) rfl (by decide) (law_14 C0 htr hK hL hC hM hU hap hmu hT (by omega) rfl h9 (by omega) (by omega) kk hI ls hl)
      | 15, _ => exact lv_tableIn (tgt := 775) hx hb d_La_law_40 (by decide) (by decide) (off := 735) rfl (by decide) (law_15 C0 htr hK hL hC hM hU hap hmu hT (by omega) rfl h9 (by omega) (by omega) kk hI ls hl)
      | 16, _ => exact lv_tableIn (tgt := 800) hx hb d_La_law_40 (by decide) (by decide) (off := 760) rfl (by decide) (law_16 C0 htr hK hL hC hM hU hap hmu hT (by omega) rfl h9 (by omega) (by omega) kk hI ls hl)
      | 17, _ => exact lv_tableIn (tgt := 840) hx hb d_La_law_40 (by decide) (by decide) (off := 800) rfl (by decide) (law_17 C0 htr hK hL hC hM hU hap hmu hT (by omega) rfl h9 (by omega) (by omega) kk hI ls hl)
      | 18, _ => exact lv_tableIn (tgt := 880) hx hb d_La_law_40 (by decide) (by decide) (off := 840) rfl (by decide) (law_18 C0 htr hK hL hC hM hU hap hmu hT (by omega) rfl h9 (by omega) (by omega) kk hI ls hl)
      | i + 19, hi => exact lv_tableOut (tgt := 905) hx hb d_La_law_40 (Or.inr (by rw [nI_toInt (by omega)]; omega)) (by decide) (W.widen (k := 300 + j + 1) (n := 70000 + 6 * j + 6) (by omega) (by omega) (kk _ _ _ _ _ _ _ _ _ _ _ _ _ _ _ _ _ _ _ _ _ _ (Nat.le_succ _) hC hM hU hT hI hl))

set_option maxHeartbeats 4000000 in
set_option maxRecDepth 100000 in
theorem whole_start {p : Program} {e : Env} {s : State} {m : MethodId} {below : List Frame} {meth : Method} {c : Code} (l : Launch) (htr : l.stackTraces = false) {b L : Nat} {xs : Nat → Int32} (hL : L ≤ 4608) (C0 : lw_At p s m meth c b L xs) : W p l e room_1 s m #[Value.ref b] below meth c s.heap [] 0 0 (lw_Z below #[Value.ref b] s) (entryFrame m ([Value.ref b] : List Value).toArray 8) := by
  obtain ⟨hx, hb, hr, hml, hown, hts, hX, hbl, hlocks, hgv⟩ := id C0
  obtain ⟨D, hK⟩ := law_K C0
  have M : CallFix p m c b_La_law 8 s #[Value.ref b] tb R_La := ⟨hx, hb, hml, hown, fun w h => hts w (tb_in h)⟩
  obtain ⟨G0, hG0⟩ : ∃ z : gw_G, z = fun _ => none := ⟨_, rfl⟩
  have hI : gw_I D s.heap G0 s.heap s.heap [] := ⟨⟨⟨Nat.le_refl _, fun a cell ha hc => absurd (Array.getElem?_eq_some_iff.mp hc).1 (Nat.not_lt.mpr ha)⟩, fun q hq => rfl, fun a K ha => by rw [hG0] at ha; cases ha⟩, va_S.rf⟩
  have hl := lv_entry ([.ref b]) (n := 8) (Nat.le_of_ble_eq_true rfl)
  rw [lg_entry_eq]
  generalize (lg_sl ([.ref b]) ++ List.replicate (8 - (lg_sl ([.ref b])).length) Slot.unset).toArray = ls at hl ⊢
  have hl : lv_has ls 8 [(0, .ref b)] := hl
  refine gw_new M hK hI (ci := 5) (fs := [.null, .int 0, .null, .null, .null, .null, .null, .null]) i_Gp t_Gp tk_Gp q_La_8 j_Gp z_Gp rfl (fun j hj => by rcases (show j = 0 ∨ j = 1 ∨ j = 2 ∨ j = 3 ∨ j = 4 ∨ j = 5 ∨ j = 6 ∨ j = 7 by omega) with rfl | rfl | rfl | rfl | rfl | rfl | rfl | rfl <;> rfl) (Nat.le_of_ble_eq_true rfl) (Nat.le_of_ble_eq_true rfl) d_La_law_0 (fun q1 H hz2 hI => ?_)
  generalize hE_G3 : gw_up G0 q1 (kx (.inr (5, [.null, .int 0, .null, .null, .null, .null, .null, .null]))) = G3 at hI
  have hG5 : G3 q1 = some (kx (.inr (5, [.null, .int 0, .null, .null, .null, .null, .null, .null]))) := by rw [← hE_G3]; exact gw_up_s
  have hs4 : gw_fr (fun _ => False) G0 G3 := by rw [← hE_G3]; exact gw_fr.new hz2
  refine lv_dup hx hb d_La_law_3 rfl ?_
  refine gw_Iv (As := []) (rest := [.ref q1]) M hK hI (c_Gp_init l q1 hG5) k_Gp_init m_La_55 rfl hl.1 rfl (Nat.le_of_ble_eq_true rfl) ⟨rfl, rfl, ⟨Nat.le_of_ble_eq_true rfl, Nat.le_of_ble_eq_true rfl⟩, ⟨Nat.le_of_ble_eq_true rfl, Nat.le_of_ble_eq_true rfl⟩⟩ d_La_law_4 (fun G6 H locs hw hI => ?_)
  obtain ⟨⟨A, hA0, hC⟩, -⟩ := hw
  subst hA0
  refine lv_astore_n (lv' := [(1, .ref (A 0 0)), (0, .ref b)]) hx hb d_La_law_7 rfl hl (by decide) rfl (fun ls hl => ?_)
  refine gw_new M hK hI (ci := 6) (fs := [.int 0, .null, .null, .null, .null, .null, .null, .null, .null, .null, .null, .null, .null, .null, .null, .null, .null, .int 0, .null, .int 0, .null, .null, .null, .int 0, .null, .null, .null, .null, .null, .null]) i_Mo t_Mo tk_Mo q_La_56 j_Mo z_Mo rfl (fun j hj => by rcases (show j = 0 ∨ j = 1 ∨ j = 2 ∨ j = 3 ∨ j = 4 ∨ j = 5 ∨ j = 6 ∨ j = 7 ∨ j = 8 ∨ j = 9 ∨ j = 10 ∨ j = 11 ∨ j = 12 ∨ j = 13 ∨ j = 14 ∨ j = 15 ∨ j = 16 ∨ j = 17 ∨ j = 18 ∨ j = 19 ∨ j = 20 ∨ j = 21 ∨ j = 22 ∨ j = 23 ∨ j = 24 ∨ j = 25 ∨ j = 26 ∨ j = 27 ∨ j = 28 ∨ j = 29 by omega) with rfl | rfl | rfl | rfl | rfl | rfl | rfl | rfl | rfl | rfl | rfl | rfl | rfl | rfl | rfl | rfl | rfl | rfl | rfl | rfl | rfl | rfl | rfl | rfl | rfl | rfl | rfl | rfl | rfl | rfl <;> rfl) (Nat.le_of_ble_eq_true rfl) (Nat.le_of_ble_eq_true rfl) d_La_law_8 (fun q7 H hz8 hI => ?_)
  generalize hE_G9 : gw_up G6 q7 (kx (.inr (6, [.int 0, .null, .null, .null, .null, .null, .null, .null, .null, .null, .null, .null, .null, .null, .null, .null, .null, .int 0, .null, .int 0, .null, .null, .null, .int 0, .null, .null, .null, .null, .null, .null]))) = G9 at hI
  have hG11 : G9 q7 = some (kx (.inr (6, [.int 0, .null, .null, .null, .null, .null, .null, .null, .null, .null, .null, .null, .null, .null, .null, .null, .null, .int 0, .null, .int 0, .null, .null, .null, .int 0, .null, .null, .null, .null, .null, .null]))) := by rw [← hE_G9]; exact gw_up_s
  have hs10 : gw_fr (fun _ => False) G6 G9 := by rw [← hE_G9]; exact gw_fr.new hz8
  refine lv_dup hx hb d_La_law_11 rfl ?_
  have hne : ∀ k i, inA k i → A k i ≠ q7 := fun k i hk e => by obtain ⟨K9, h9⟩ := hC.has hk; rw [e, hz8] at h9; cases h9
  have hC := hC.fr hs10 (fun _ _ _ h => h)
  have hC3 := hC
  refine gw_Iv (As := []) (rest := [.ref q7]) M hK hI (c_Mo_init l q7 hG11) k_Mo_init m_La_58 rfl hl.1 rfl (Nat.le_of_ble_eq_true rfl) ⟨rfl, rfl, ⟨Nat.le_of_ble_eq_true rfl, Nat.le_of_ble_eq_true rfl⟩, ⟨Nat.le_of_ble_eq_true rfl, Nat.le_of_ble_eq_true rfl⟩⟩ d_La_law_12 (fun G12 H locs hw hI => ?_)
  obtain ⟨⟨q, hM, hnone⟩, hfm⟩ := hw
  have hC := hC.fr hfm hne
  have hap : ∀ k i, inA k i → ¬ mown q7 q (A k i) := fun k i hk hm => by
    rcases hm with e | ⟨j, hj, e⟩
    · exact hne k i hk e
    · obtain ⟨K9, h9⟩ := hC3.has hk; rw [e, hnone j hj] at h9; cases h9
  refine lv_astore_n (lv' := [(2, .ref q7), (1, .ref (A 0 0)), (0, .ref b)]) hx hb d_La_law_15 rfl hl (by decide) rfl (fun ls hl => ?_)
  refine lv_iconst (v := 1) hx hb d_La_law_16 (by decide) ?_
  refine gw_newa M hK hI (atype := .long) a_long 3 rfl (fun U cA h => h) (N' := 1) (a0 := (1, .inr (.inl (fun _ => 0)))) (fun cA => rfl) (by decide) rfl (Nat.le_of_ble_eq_true rfl) (Nat.le_of_ble_eq_true rfl) (Nat.le_of_ble_eq_true rfl) (kL D 1 tU) (⟨_, fun _ _ => trivial, rfl⟩) d_La_law_17 (fun q13 H hz14 hI => ?_)
  generalize hE_G15 : gw_up G12 q13 (kL D 1 tU) = G15 at hI
  have hG17 : G15 q13 = some (kL D 1 tU) := by rw [← hE_G15]; exact gw_up_s
  have hs16 : gw_fr (fun _ => False) G12 G15 := by rw [← hE_G15]; exact gw_fr.new hz14
  refine lv_astore_n (lv' := [(3, .ref q13), (2, .ref q7), (1, .ref (A 0 0)), (0, .ref b)]) hx hb d_La_law_19 rfl hl (by decide) rfl (fun ls hl => ?_)
  refine lv_iconst (v := 0) hx hb d_La_law_20 (by decide) ?_
  refine lv_istore (lv' := [(4, .int 0), (3, .ref q13), (2, .ref q7), (1, .ref (A 0 0)), (0, .ref b)]) hx hb d_La_law_21 hl (by decide) rfl (fun ls hl => ?_)
  have hmu : ¬ mown q7 q q13 := fun h => by obtain ⟨K9, h9⟩ := hM.has h; rw [hz14] at h9; cases h9
  refine W.widen (k := 300 + 0) (n := 70000 + 6 * 0) (Nat.le_of_ble_eq_true rfl) (Nat.le_of_ble_eq_true rfl) ?_
  exact law_loop C0 htr hK hL hap hmu (L + 1) 0 _ _ _ _ _ _ _ _ _ _ _ _ _ _ _ _ _ _ _ _ _ _ (by omega) (Nat.zero_le _) (Nat.le_refl _) (hC.fr hs16 (fun _ _ _ h => h)) (hM.fr hs16 (fun _ _ h => h)) hG17 tie.start hI (lv_sub hl [0, 1, 2, 3, 4] rfl)

set_option maxHeartbeats 4000000 in
theorem lw_walk (l : Launch) (htr : l.stackTraces = false) (b : Addr) (xs : List Int32) : MetFree l x (headSpec (Jvm.Cond.code x code maxLocals ret :: tables_1) room_1) (lw_P b xs) (fun _ _ _ _ _ => True) lw_Q := by
  refine MetFree.of_bodyS (code := code) (maxLocals := maxLocals) (ret := ret) (by decide) ?_ ?_
  · intro args s m h hn
    obtain ⟨meth, c, h1, h2, h3, h4, h5, h6, -, -⟩ := Cond.code_spec hn (atoms_spec (ws := Jvm.Cond.code x code maxLocals ret :: tables_1) h _ List.mem_cons_self)
    exact ⟨meth, c, h1, h2, h3, h4, h5, h6⟩
  · intro p e s m args below meth c s₁ B hml0 hP _
    obtain ⟨rfl, hx, hbd, hgv⟩ := hP
    obtain ⟨scr, harrAt, hlist, hof, hsmall⟩ := hx
    obtain ⟨hcb, hkn, -, -⟩ := State.arrayAt?_spec harrAt
    have hown : s.vm.findClass R_law = some m.cls := findClass_of_methodNamed B.named
    have hts0 : ∀ c ∈ (Jvm.Cond.code x code maxLocals ret :: tables_1), c.before #[Value.ref b] s = true := atoms_spec (ws := Jvm.Cond.code x code maxLocals ret :: tables_1) B.pre
    have hts : ∀ w ∈ lw_tbl, w.before #[Value.ref b] s = true := k2_hts_sels lw_privs (fun w hw => hts0 w (List.mem_cons_of_mem _ hw)) lw_privs_ok
    have hml : c.maxLocals = 8 := B.maxLocals_eq (hts0 _ List.mem_cons_self)
    have X₀ : Stand p l e room_1 s m #[Value.ref b] below meth c s₁ [] 0 0 := Stand.of_body B
    have hh0 : s₁.heap = s.heap := by rw [B.state]; rfl
    have hsz : scr.slots.size = xs.length := by rw [← Array.length_toList, hlist, List.length_map]
    have hval : ∀ j : Nat, j < xs.length → scr.slots[j]? = some (.int (xs.getD j 0)) := fun j hj => by
      rw [← Array.getElem?_toList, hlist]
      simp [hj]
    have hbl : b < s.heap.size := (Array.getElem?_eq_some_iff.mp hcb).1
    have hX : va_X b xs.length (fun j => xs.getD j 0) s s.heap := ⟨scr, hcb, hof, hkn, hsz, hval⟩
    have K : W p l e room_1 s m #[Value.ref b] below meth c s₁.heap [] 0 0 (lw_Z below #[Value.ref b] s) (entryFrame m ([Value.ref b] : List Value).toArray 8) := by
      rw [hh0]
      exact whole_start l htr hbd ⟨B.exec, B.bytes, B.returns, hml, hown, hts, hX, hbl, B.notSynchronized, hgv⟩
    obtain ⟨t, a1, o, b1, b2, b3⟩ := K s₁ rfl X₀
    exact ⟨t, o, a1, b1, b2, b3⟩
theorem lw_pre_spec {args : Array Value} {s : State} (h : (Jvm.Cond.and given_1 narrow_1).before args s = true) (hr : rest_1_c.before args s = true) : ∃ (b : Addr) (xs : List Int32), lw_P b xs args s := by
  have hs := flat_of_before _ h
  have hq := flat_of_before _ hr
  have hc : (Cond.count 1).before args s = true := hs _ (by decide +kernel)
  have harr : (Cond.arrayOf (.arg 0) .int).before args s = true := hs _ (by decide +kernel)
  have hle : (Cond.le (.length (.arg 0)) (.int 4608)).before args s = true := hs _ (by decide +kernel)
  have hlen : (Cond.isInt (.length (.arg 0))).before args s = true := hq _ (by decide +kernel)
  have hall : (Cond.all (.arg 0) (.isInt (.elem (.arg 0) (.index 0)))).before args s = true := hq _ (by decide +kernel)
  obtain ⟨b, xs, hb, hx⟩ := State.ints_of_pre rfl harr hlen hall
  have hsm : xs.length < 2 ^ 31 := hx.choose_spec.2.2.2
  have hev : (Term.length (.arg 0)).eval args s none [] s = some (.int xs.length.toInt32) := hx.length_eval hb
  have hv := Cond.le_ints hev (show (Term.int 4608).eval args s none [] s = some (.int 4608) from rfl)
  have hd : xs.length.toInt32 ≤ 4608 := by
    simpa [Cond.before, Cond.holds, hv] using hle
  have hN : xs.length ≤ 4608 := (Int32.ofNat_le_ofNat hsm (by decide)).mp (show Int32.ofNat xs.length ≤ Int32.ofNat 4608 from hd)
  exact ⟨b, xs, Cond.one_arg hc (show args[0]? = some (.ref b) from hb), hx, hN, h⟩
theorem lw_comes (l : Launch) (htr : l.stackTraces = false) : Comes l x (Jvm.Cond.code x code maxLocals ret :: tables_1) room_1 (fun tb e args s => Calls_1 tb e args s ∧ rest_1 tb e args s ∧ Pre_1 tb e args s)
    (fun _ _ args s o t => lw_Q args s o t) := by
  intro p e ha hc hk s m args below hf hfit hheap happ hpre
  obtain ⟨b, xs, hP⟩ := lw_pre_spec hpre.2.2 hpre.2.1
  obtain ⟨k, o, h1, h2, h3, hQ⟩ := lw_walk l htr b xs p e ha hc hk s m args below hf ((Spec.applies_iff_loose hf).mp happ).1 hP trivial
  exact ⟨k, o, h1, h2, h3, hQ⟩
theorem lw_frame {s t : State} {o : Outcome} {args : Array Value} (h : Framed s o t [] 601024 7293034) :
    Framed s o t (fieldLocs frame_1_writes args s ++ arrayLocs frame_1_arrays args s ++ staticLocs frame_1_statics s) 601024 7293034 := h
theorem lw_limb (L : Cond) (hL : ∀ (args : Array Value) (s t : State), L.after args s (.returned (some (.int 1))) t = true) :
    ArmFor flags0 classFile x code maxLocals ret World_1 tables_1 room_1 Calls_1 rest_1 Pre_1
      (fun tb e a s o t => postC L tb e a s o t ∧ Framed s o t (fieldLocs frame_1_writes a s ++ arrayLocs frame_1_arrays a s ++ staticLocs frame_1_statics s) 601024 7293034) := by
  intro l hfl _ _ p e ha hc hk s m args below hf hfit hheap happ hpre
  obtain ⟨k, o, h1, h2, h3, rfl, hF⟩ := lw_comes l (by unfold Launch.stackTraces; rw [hfl]; decide +kernel) p e ha hc hk s m args below hf hfit hheap happ hpre
  exact ⟨k, _, h1, h2, h3, hL args s _, lw_frame hF⟩
theorem i_vc : Claimed_1_1 ∧ Claimed_1_2 := ⟨lw_limb limb_1_1 (fun args s t => by simp [limb_1_1, Cond.after, Cond.holds, Cond.value]), lw_limb limb_1_2 (fun args s t => Cond.after_iff.mpr (by
  first | (rw [show limb_1_2 = Cond.eq .result (.int 1) from rfl, Cond.eq_ints (x := 1) (y := 1) rfl rfl]; simp; done) | (simp [limb_1_2, Cond.value, Term.eval]; done)))⟩
