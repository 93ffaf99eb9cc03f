theorem ix9 : vp_in (0 : Int32) 9 ∧ vp_in ((0 : Int32) + 1) 9 ∧ vp_in ((0 : Int32) + 2) 9 ∧ vp_in ((0 : Int32) + 3) 9 ∧ vp_in ((0 : Int32) + 4) 9 ∧ vp_in ((0 : Int32) + 5) 9 ∧ vp_in ((0 : Int32) + 6) 9 ∧ vp_in ((0 : Int32) + 7) 9 ∧ vp_in ((0 : Int32) + 8) 9 := by unfold vp_in; decide
theorem ge8 {x : Int32} (h : 8 ≤ x) : ¬ x ≤ 7 := fun q => by
  rw [Int32.le_iff_toInt_le] at h q
  have e1 : (8 : Int32).toInt = 8 := rfl
  have e2 : (7 : Int32).toInt = 7 := rfl
  omega
theorem lt8 {x : Int32} (h : ¬ 8 ≤ x) : x ≤ 7 := by
  rw [Int32.le_iff_toInt_le] at h ⊢
  have e1 : (8 : Int32).toInt = 8 := rfl
  have e2 : (7 : Int32).toInt = 7 := rfl
  omega
theorem gp_new.fr {D : gw_D} {o : Nat} {G G1 : gw_G} (h : gp_new D o G) (hf : gw_fr (fun _ => False) G G1) : gp_new D o G1 := by
  obtain ⟨arr, fed, sent, places, plain, gained, check, as, ro, h1, h2, h3, ⟨q4, h4, h4b⟩, ⟨q5, h5, h5b⟩, ⟨q6, h6, h6b⟩, h7, h8, h9⟩ := h
  have k : ∀ {b : Nat} {K : va_E → Prop}, G b = some K → G1 b = some K := fun h => hf _ _ h (fun q => q)
  refine ⟨arr, fed, sent, places, plain, gained, check, as, ro, k h1, k h2, k h3, ⟨q4, k h4, k h4b⟩, ⟨q5, k h5, k h5b⟩, ⟨q6, k h6, k h6b⟩, fun j hj => ?_, fun j hj => ?_, h9⟩
  · obtain ⟨ci, wo, wi, bi, g1, g2, g3, g4, g5⟩ := h7 j hj
    exact ⟨ci, wo, wi, bi, k g1, k g2, k g3, k g4, k g5⟩
  · obtain ⟨q, g1, g2⟩ := h8 j hj
    exact ⟨q, k g1, k g2⟩
theorem mo_ok.mono {D : gw_D} {Z : Int32 → Prop} {q : Nat → Nat} {G G1 : gw_G} (h : mo_ok D Z q G) (hf : gw_fr (fun _ => False) G G1) : mo_ok D Z q G1 := ⟨h.1, fun k hk => hf _ _ (h.2 k hk) (fun q => q)⟩
theorem gw_fr.born {q : Nat} {G G1 G2 : gw_G} (h1 : gw_fr (fun _ => False) G G1) (hq : G q = none) (h2 : gw_fr (fun b => b = q) G1 G2) : gw_fr (fun _ => False) G G2 := gw_fr.fresh h1 hq h2

theorem mo_n1 {D : gw_D} {k : Nat} (h : mo_is k = true) : ∃ x, mo_kind D tZ k x ∧ ∃ cA n r, x = .inl (cA, n, r) ∧ ¬ n = 1 := by
  have hk : k < 30 := by simp [mo_is] at h; exact h.2
  match k, hk, h with
  | 0, _, h => cases h
  | 1, _, _ => exact ⟨_, ⟨fun _ => 0, fun _ _ => (show uN 0 < 256 by decide), rfl⟩, _, _, _, rfl, by decide⟩
  | 2, _, _ => exact ⟨_, ⟨fun _ => 0, fun _ _ => rfl, rfl⟩, _, _, _, rfl, by decide⟩
  | 3, _, _ => exact ⟨_, ⟨fun _ => 0, fun _ _ => trivial, rfl⟩, _, _, _, rfl, by decide⟩
  | 4, _, _ => exact ⟨_, ⟨fun _ => 0, fun _ _ => (show uN 0 < 256 by decide), rfl⟩, _, _, _, rfl, by decide⟩
  | 5, _, _ => exact ⟨_, ⟨fun _ => 0, fun _ _ => trivial, rfl⟩, _, _, _, rfl, by decide⟩
  | 6, _, _ => exact ⟨_, ⟨fun _ => 0, fun _ _ => trivial, rfl⟩, _, _, _, rfl, by decide⟩
  | 7, _, _ => exact ⟨_, ⟨fun _ => 0, fun _ _ => trivial, rfl⟩, _, _, _, rfl, by decide⟩
  | 8, _, _ => exact ⟨_, ⟨fun _ => 0, fun _ _ => trivial, rfl⟩, _, _, _, rfl, by decide⟩
  | 9, _, _ => exact ⟨_, ⟨fun _ => 0, fun _ _ => trivial, rfl⟩, _, _, _, rfl, by decide⟩
  | 10, _, _ => exact ⟨_, ⟨fun _ => 0, fun _ _ => trivial, rfl⟩, _, _, _, rfl, by decide⟩
  | 11, _, _ => exact ⟨_, ⟨fun _ => 0, fun _ _ => trivial, rfl⟩, _, _, _, rfl, by decide⟩
  | 12, _, _ => exact ⟨_, ⟨fun _ => 0, fun _ _ => trivial, rfl⟩, _, _, _, rfl, by decide⟩
  | 13, _, _ => exact ⟨_, ⟨fun _ => 0, fun _ _ => trivial, rfl⟩, _, _, _, rfl, by decide⟩
  | 14, _, _ => exact ⟨_, ⟨fun _ => 0, fun _ _ => trivial, rfl⟩, _, _, _, rfl, by decide⟩
  | 15, _, _ => exact ⟨_, ⟨fun _ => 0, fun _ _ => trivial, rfl⟩, _, _, _, rfl, by decide⟩
  | 16, _, _ => exact ⟨_, ⟨fun _ => 0, fun _ _ => trivial, rfl⟩, _, _, _, rfl, by decide⟩
  | 17, _, h => cases h
  | 18, _, _ => exact ⟨_, ⟨fun _ => 0, fun _ _ => trivial, rfl⟩, _, _, _, rfl, by decide⟩
  | 19, _, h => cases h
  | 20, _, _ => exact ⟨_, ⟨fun _ => 0, fun _ _ => trivial, rfl⟩, _, _, _, rfl, by decide⟩
  | 21, _, _ => exact ⟨_, ⟨fun _ => -1, fun _ _ => rfl, rfl⟩, _, _, _, rfl, by decide⟩
  | 22, _, _ => exact ⟨_, ⟨fun _ => 0, fun _ _ => trivial, rfl⟩, _, _, _, rfl, by decide⟩
  | 23, _, h => cases h
  | 24, _, _ => exact ⟨_, ⟨fun _ => 0, fun _ _ => trivial, rfl⟩, _, _, _, rfl, by decide⟩
  | 25, _, _ => exact ⟨_, ⟨fun _ => 0, fun _ _ => trivial, rfl⟩, _, _, _, rfl, by decide⟩
  | 26, _, _ => exact ⟨_, ⟨fun _ => 0, fun _ _ => trivial, rfl⟩, _, _, _, rfl, by decide⟩
  | 27, _, _ => exact ⟨_, ⟨fun _ => 0, fun _ _ => trivial, rfl⟩, _, _, _, rfl, by decide⟩
  | 28, _, _ => exact ⟨_, ⟨fun _ => 0, fun _ _ => trivial, rfl⟩, _, _, _, rfl, by decide⟩
  | 29, _, _ => exact ⟨_, ⟨fun _ => 0, fun _ _ => trivial, rfl⟩, _, _, _, rfl, by decide⟩
  | k + 30, hk, _ => exact absurd hk (Nat.not_lt.mpr (Nat.le_add_left _ _))

theorem mo_ok.fu {D : gw_D} {q : Nat → Nat} {G G1 : gw_G} {ou : Nat} {f : Nat → Int64} (h : mo_ok D tZ q G) (hU : G ou = some (kx (.inl (D.2 3, 1, .inr (.inl f))))) (hf : gw_fr (fun b => b = ou) G G1) : mo_ok D tZ q G1 := by
  refine ⟨h.1, fun k hk => hf _ _ (h.2 k hk) ?_⟩
  obtain ⟨x, h1, cA, n, r, rfl, hn⟩ := mo_n1 (D := D) hk
  exact gw_ne (h.2 k hk) hU h1 (fun e => hn (congrArg (fun z => z.2.1) (Sum.inl.inj e)))

set_option maxHeartbeats 1000000 in
set_option maxRecDepth 100000 in
theorem law_tail {p : Program} {l : Launch} {e : Env} {s : State} {m : MethodId} {below : List Frame} {meth : Method} {c : Code} {b : Nat} {xs : Nat → Int32} (C0 : lw_At p s m meth c b 9 xs) (htr : l.stackTraces = false) {D : gw_D} (hK : gw_K D s.heap s) {G : gw_G} {H : Heap} {locs : List Loc} (hI : gw_I D s.heap G s.heap H locs) (ls : Array Slot) (hl : lv_has ls 8 [(4, .int 0), (0, .ref b)]) : W p l e room_1 s m #[Value.ref b] below meth c H locs 400 80000 (lw_Z below #[Value.ref b] s) (F0 m 1141 ls []) := by
  obtain ⟨hx, hb, hr, hml, hown, hts, hX, hbl, hlocks, hgv⟩ := id C0
  have M : CallFix p m c b_La_law 8 s #[Value.ref b] tb R_La := ⟨hx, hb, hml, hown, fun w h => hts w (tb_in h)⟩
  have hbA : ¬ gw_A s.heap b := Nat.not_le.mpr hbl
  refine lv_iinc (v := 9) (lv' := [(4, .int 9), (0, .ref b)]) hx hb d_La_law_1141 hl (k := 0) rfl (by decide) (by decide) rfl (fun ls hl => ?_)
  refine lv_goto (tgt := 23) hx hb d_La_law_1144 (by decide) ?_
  refine lv_iload hx hb d_La_law_23 (lv_at hl 0 rfl) ?_
  refine lv_aload_n hx hb d_La_law_25 rfl (lv_at hl 1 rfl) ?_
  refine va_slen hx hb hX hbl hbA hI.2 d_La_law_26 ?_
  refine lv_bipush (v := 9) hx hb d_La_law_27 (by decide) ?_
  refine lv_isub hx hb d_La_law_29 ?_
  refine lv_icmp_gt (tgt := 1147) hx hb d_La_law_30 (by decide) (fun c_30 => ?_) (fun q9 => absurd (by decide) q9)
  refine lv_iconst (v := 1) hx hb d_La_law_1147 (by decide) ?_
  refine va_forget (fun q hq => hI.2.2.2 q hq) ?_
  refine W.widen (k := 600002) (n := 7302232) (Nat.le_of_ble_eq_true rfl) (Nat.le_of_ble_eq_true rfl) ?_
  exact lw_ret hx hb hr hlocks d_La_law_1148

set_option maxHeartbeats 1000000 in
set_option maxRecDepth 100000 in
theorem law_1 {p : Program} {l : Launch} {e : Env} {s : State} {m : MethodId} {below : List Frame} {meth : Method} {c : Code} {b : Nat} {xs : Nat → Int32} (C0 : lw_At p s m meth c b 9 xs) (htr : l.stackTraces = false) {D : gw_D} (hK : gw_K D s.heap s) {G : gw_G} {H : Heap} {locs : List Loc} {o mo ou : Nat} {q : Nat → Nat} (hGp : gp_new D o G) (hMo : G mo = some (kx (mo_ob q 0 0 0 0))) (hA : mo_ok D tZ q G) (hU : G ou = some (kx (.inl (D.2 3, 1, .inr (.inl (fun _ => 0)))))) (hI : gw_I D s.heap G s.heap H locs) (ls : Array Slot) (hl : lv_has ls 8 [(4, .int 0), (3, .ref ou), (2, .ref mo), (1, .ref o), (0, .ref b)]) : W p l e room_1 s m #[Value.ref b] below meth c H locs 300 70000 (lw_Z below #[Value.ref b] s) (F0 m 341 ls []) := by
  obtain ⟨hx, hb, hr, hml, hown, hts, hX, hbl, hlocks, hgv⟩ := id C0
  have M : CallFix p m c b_La_law 8 s #[Value.ref b] tb R_La := ⟨hx, hb, hml, hown, fun w h => hts w (tb_in h)⟩
  have hbA : ¬ gw_A s.heap b := Nat.not_le.mpr hbl
  obtain ⟨arr, fed, sent, places, plain, gained, check, as, ro, hO, hArr, hL, ⟨fq, hF, hbF⟩, ⟨sq, hS, hbS⟩, ⟨gq, hN, hbN⟩, hAs, hRo, hRs⟩ := hGp
  refine lv_aload_n hx hb d_La_law_341 rfl (lv_at hl 3 rfl) ?_
  refine lv_aload_n hx hb d_La_law_342 rfl (lv_at hl 4 rfl) ?_
  refine lv_iload hx hb d_La_law_343 (lv_at hl 0 rfl) ?_
  refine lv_iconst (v := 1) hx hb d_La_law_345 (by decide) ?_
  refine lv_iadd hx hb d_La_law_346 ?_
  refine va_sld hx hb hX hbl hbA hI.2 ix9.2.1 d_La_law_347 ?_
  refine gw_Vi (As := [.int (xs ((0 : Int32) + (1 : Int32)).toNatClampNeg)]) (rest := []) M hK hI (c_Gp_drop l (xs ((0 : Int32) + (1 : Int32)).toNatClampNeg) o arr fed sent places plain gained check hO) k_Gp_drop m_La_71 hO (ci := 5) rfl (fun x hx => ⟨_, hx⟩) rfl hl.1 rfl (Nat.le_of_ble_eq_true rfl) ⟨rfl, rfl, ⟨Nat.le_of_ble_eq_true rfl, Nat.le_of_ble_eq_true rfl⟩, ⟨Nat.le_of_ble_eq_true rfl, Nat.le_of_ble_eq_true rfl⟩⟩ d_La_law_348 (fun x1 G9 H locs hw hI => ?_)
  obtain ⟨h_x1, hw⟩ := hw
  rw [hw] at hI
  subst h_x1
  refine lv_aload_n hx hb d_La_law_351 rfl (lv_at hl 2 rfl) ?_
  refine lv_aload_n hx hb d_La_law_352 rfl (lv_at hl 4 rfl) ?_
  refine lv_iload hx hb d_La_law_353 (lv_at hl 0 rfl) ?_
  refine lv_iconst (v := 1) hx hb d_La_law_355 (by decide) ?_
  refine lv_iadd hx hb d_La_law_356 ?_
  refine va_sld hx hb hX hbl hbA hI.2 ix9.2.1 d_La_law_357 ?_
  refine gw_Vi (As := [.int (xs ((0 : Int32) + (1 : Int32)).toNatClampNeg)]) (rest := [.int 0]) M hK hI (c_Mo_drop l (xs ((0 : Int32) + (1 : Int32)).toNatClampNeg) mo q 0 0 0 0 hMo hA) k_Mo_drop m_La_75 hMo (ci := 6) rfl (fun x hx => ⟨_, hx⟩) rfl hl.1 rfl (Nat.le_of_ble_eq_true rfl) ⟨rfl, rfl, ⟨Nat.le_of_ble_eq_true rfl, Nat.le_of_ble_eq_true rfl⟩, ⟨Nat.le_of_ble_eq_true rfl, Nat.le_of_ble_eq_true rfl⟩⟩ d_La_law_358 (fun x2 G3 H locs hw hI => ?_)
  obtain ⟨h_x2, hw⟩ := hw
  have hA := hA.fr hMo (show gw_fr (fun b => b = mo) G G3 from by rw [hw]; exact gw_fr.up rfl)
  have hM4 : G3 mo = some (kx (mo_ob q 0 0 0 0)) := by rw [hw]; exact gw_up_s
  have hn5 : ou ≠ mo := (ne_x hMo hU (fun q => by cases q)).symm
  have hU6 : G3 ou = some (kx (.inl (D.2 3, 1, .inr (.inl (fun _ => 0))))) := by rw [hw, gw_up_n hn5]; exact hU
  subst h_x2
  refine lv_icmp_eq (tgt := 1141) hx hb d_La_law_361 (by decide) (fun c_361 => ?_) (fun q9 => absurd (by decide) q9)
  refine W.widen (k := 400) (n := 80000) (Nat.le_of_ble_eq_true rfl) (Nat.le_of_ble_eq_true rfl) ?_
  exact law_tail C0 htr hK hI ls (lv_sub hl [0, 4] rfl)

set_option maxHeartbeats 1000000 in
set_option maxRecDepth 100000 in
theorem law_5 {p : Program} {l : Launch} {e : Env} {s : State} {m : MethodId} {below : List Frame} {meth : Method} {c : Code} {b : Nat} {xs : Nat → Int32} (C0 : lw_At p s m meth c b 9 xs) (htr : l.stackTraces = false) {D : gw_D} (hK : gw_K D s.heap s) {G : gw_G} {H : Heap} {locs : List Loc} {o mo ou : Nat} {q : Nat → Nat} (hGp : gp_new D o G) (hMo : G mo = some (kx (mo_ob q 0 0 0 0))) (hA : mo_ok D tZ q G) (hU : G ou = some (kx (.inl (D.2 3, 1, .inr (.inl (fun _ => 0)))))) (hI : gw_I D s.heap G s.heap H locs) (ls : Array Slot) (hl : lv_has ls 8 [(4, .int 0), (3, .ref ou), (2, .ref mo), (1, .ref o), (0, .ref b)]) : W p l e room_1 s m #[Value.ref b] below meth c H locs 300 70000 (lw_Z below #[Value.ref b] s) (F0 m 614 ls []) := by
  obtain ⟨hx, hb, hr, hml, hown, hts, hX, hbl, hlocks, hgv⟩ := id C0
  have M : CallFix p m c b_La_law 8 s #[Value.ref b] tb R_La := ⟨hx, hb, hml, hown, fun w h => hts w (tb_in h)⟩
  have hbA : ¬ gw_A s.heap b := Nat.not_le.mpr hbl
  obtain ⟨arr, fed, sent, places, plain, gained, check, as, ro, hO, hArr, hL, ⟨fq, hF, hbF⟩, ⟨sq, hS, hbS⟩, ⟨gq, hN, hbN⟩, hAs, hRo, hRs⟩ := hGp
  refine lv_aload_n hx hb d_La_law_614 rfl (lv_at hl 3 rfl) ?_
  refine gw_Vi (As := []) (rest := []) M hK hI (c_Gp_wipe l o arr fed sent places plain gained check hO fq hF hbF) k_Gp_wipe m_La_88 hO (ci := 5) rfl (fun x hx => ⟨_, hx⟩) rfl hl.1 rfl (Nat.le_of_ble_eq_true rfl) ⟨rfl, rfl, ⟨Nat.le_of_ble_eq_true rfl, Nat.le_of_ble_eq_true rfl⟩, ⟨Nat.le_of_ble_eq_true rfl, Nat.le_of_ble_eq_true rfl⟩⟩ d_La_law_615 (fun x1 G9 H locs hw hI => ?_)
  obtain ⟨h_x1, hw⟩ := hw
  rw [hw] at hI
  subst h_x1
  refine lv_aload_n hx hb d_La_law_618 rfl (lv_at hl 2 rfl) ?_
  refine gw_Vi (As := []) (rest := [.int 0]) M hK hI (c_Mo_wipe l mo q 0 0 0 0 hMo hA) k_Mo_wipe m_La_91 hMo (ci := 6) rfl (fun x hx => ⟨_, hx⟩) rfl hl.1 rfl (Nat.le_of_ble_eq_true rfl) ⟨rfl, rfl, ⟨Nat.le_of_ble_eq_true rfl, Nat.le_of_ble_eq_true rfl⟩, ⟨Nat.le_of_ble_eq_true rfl, Nat.le_of_ble_eq_true rfl⟩⟩ d_La_law_619 (fun x2 G3 H locs hw hI => ?_)
  obtain ⟨h_x2, hw⟩ := hw
  have hA := hA.fr hMo (show gw_fr (fun b => b = mo) G G3 from by rw [hw]; exact gw_fr.up rfl)
  have hM4 : G3 mo = some (kx (mo_ob q 0 0 0 0)) := by rw [hw]; exact gw_up_s
  have hn5 : ou ≠ mo := (ne_x hMo hU (fun q => by cases q)).symm
  have hU6 : G3 ou = some (kx (.inl (D.2 3, 1, .inr (.inl (fun _ => 0))))) := by rw [hw, gw_up_n hn5]; exact hU
  subst h_x2
  refine lv_icmp_eq (tgt := 1141) hx hb d_La_law_622 (by decide) (fun c_622 => ?_) (fun q9 => absurd (by decide) q9)
  refine W.widen (k := 400) (n := 80000) (Nat.le_of_ble_eq_true rfl) (Nat.le_of_ble_eq_true rfl) ?_
  exact law_tail C0 htr hK hI ls (lv_sub hl [0, 4] rfl)

set_option maxHeartbeats 1000000 in
set_option maxRecDepth 100000 in
theorem law_7 {p : Program} {l : Launch} {e : Env} {s : State} {m : MethodId} {below : List Frame} {meth : Method} {c : Code} {b : Nat} {xs : Nat → Int32} (C0 : lw_At p s m meth c b 9 xs) (htr : l.stackTraces = false) {D : gw_D} (hK : gw_K D s.heap s) {G : gw_G} {H : Heap} {locs : List Loc} {o mo ou : Nat} {q : Nat → Nat} (hGp : gp_new D o G) (hMo : G mo = some (kx (mo_ob q 0 0 0 0))) (hA : mo_ok D tZ q G) (hU : G ou = some (kx (.inl (D.2 3, 1, .inr (.inl (fun _ => 0)))))) (hI : gw_I D s.heap G s.heap H locs) (ls : Array Slot) (hl : lv_has ls 8 [(4, .int 0), (3, .ref ou), (2, .ref mo), (1, .ref o), (0, .ref b)]) : W p l e room_1 s m #[Value.ref b] below meth c H locs 300 70000 (lw_Z below #[Value.ref b] s) (F0 m 695 ls []) := by
  obtain ⟨hx, hb, hr, hml, hown, hts, hX, hbl, hlocks, hgv⟩ := id C0
  have M : CallFix p m c b_La_law 8 s #[Value.ref b] tb R_La := ⟨hx, hb, hml, hown, fun w h => hts w (tb_in h)⟩
  have hbA : ¬ gw_A s.heap b := Nat.not_le.mpr hbl
  obtain ⟨arr, fed, sent, places, plain, gained, check, as, ro, hO, hArr, hL, ⟨fq, hF, hbF⟩, ⟨sq, hS, hbS⟩, ⟨gq, hN, hbN⟩, hAs, hRo, hRs⟩ := hGp
  refine lv_aload_n hx hb d_La_law_695 rfl (lv_at hl 3 rfl) ?_
  refine gw_Vi (As := []) (rest := []) M hK hI (c_Gp_size l o arr fed sent places plain gained check hO sq hS hbS) k_Gp_size m_La_95 hO (ci := 5) rfl (fun x hx => ⟨_, hx⟩) rfl hl.1 rfl (Nat.le_of_ble_eq_true rfl) ⟨rfl, rfl, ⟨Nat.le_of_ble_eq_true rfl, Nat.le_of_ble_eq_true rfl⟩, ⟨Nat.le_of_ble_eq_true rfl, Nat.le_of_ble_eq_true rfl⟩⟩ d_La_law_696 (fun x1 G9 H locs hw hI => ?_)
  obtain ⟨h_x1, hw⟩ := hw
  rw [hw] at hI
  subst h_x1
  refine lv_aload_n hx hb d_La_law_699 rfl (lv_at hl 2 rfl) ?_
  refine gw_Vi (As := []) (rest := [.int 0]) M hK hI (c_Mo_size l mo q 0 0 0 0 hMo hA) k_Mo_size m_La_98 hMo (ci := 6) rfl (fun x hx => ⟨_, hx⟩) rfl hl.1 rfl (Nat.le_of_ble_eq_true rfl) ⟨rfl, rfl, ⟨Nat.le_of_ble_eq_true rfl, Nat.le_of_ble_eq_true rfl⟩, ⟨Nat.le_of_ble_eq_true rfl, Nat.le_of_ble_eq_true rfl⟩⟩ d_La_law_700 (fun x2 G3 H locs hw hI => ?_)
  obtain ⟨h_x2, hw⟩ := hw
  have hA := hA.fr hMo (show gw_fr (fun b => b = mo) G G3 from by rw [hw]; exact gw_fr.up rfl)
  have hM4 : G3 mo = some (kx (mo_ob q 0 0 0 0)) := by rw [hw]; exact gw_up_s
  have hn5 : ou ≠ mo := (ne_x hMo hU (fun q => by cases q)).symm
  have hU6 : G3 ou = some (kx (.inl (D.2 3, 1, .inr (.inl (fun _ => 0))))) := by rw [hw, gw_up_n hn5]; exact hU
  subst h_x2
  refine lv_icmp_eq (tgt := 1141) hx hb d_La_law_703 (by decide) (fun c_703 => ?_) (fun q9 => absurd (by decide) q9)
  refine W.widen (k := 400) (n := 80000) (Nat.le_of_ble_eq_true rfl) (Nat.le_of_ble_eq_true rfl) ?_
  exact law_tail C0 htr hK hI ls (lv_sub hl [0, 4] rfl)

set_option maxHeartbeats 1000000 in
set_option maxRecDepth 100000 in
theorem law_8 {p : Program} {l : Launch} {e : Env} {s : State} {m : MethodId} {below : List Frame} {meth : Method} {c : Code} {b : Nat} {xs : Nat → Int32} (C0 : lw_At p s m meth c b 9 xs) (htr : l.stackTraces = false) {D : gw_D} (hK : gw_K D s.heap s) {G : gw_G} {H : Heap} {locs : List Loc} {o mo ou : Nat} {q : Nat → Nat} (hGp : gp_new D o G) (hMo : G mo = some (kx (mo_ob q 0 0 0 0))) (hA : mo_ok D tZ q G) (hU : G ou = some (kx (.inl (D.2 3, 1, .inr (.inl (fun _ => 0)))))) (hI : gw_I D s.heap G s.heap H locs) (ls : Array Slot) (hl : lv_has ls 8 [(4, .int 0), (3, .ref ou), (2, .ref mo), (1, .ref o), (0, .ref b)]) : W p l e room_1 s m #[Value.ref b] below meth c H locs 300 70000 (lw_Z below #[Value.ref b] s) (F0 m 708 ls []) := by
  obtain ⟨hx, hb, hr, hml, hown, hts, hX, hbl, hlocks, hgv⟩ := id C0
  have M : CallFix p m c b_La_law 8 s #[Value.ref b] tb R_La := ⟨hx, hb, hml, hown, fun w h => hts w (tb_in h)⟩
  have hbA : ¬ gw_A s.heap b := Nat.not_le.mpr hbl
  obtain ⟨arr, fed, sent, places, plain, gained, check, as, ro, hO, hArr, hL, ⟨fq, hF, hbF⟩, ⟨sq, hS, hbS⟩, ⟨gq, hN, hbN⟩, hAs, hRo, hRs⟩ := hGp
  refine lv_aload_n hx hb d_La_law_708 rfl (lv_at hl 3 rfl) ?_
  refine lv_aload_n hx hb d_La_law_709 rfl (lv_at hl 4 rfl) ?_
  refine lv_iload hx hb d_La_law_710 (lv_at hl 0 rfl) ?_
  refine lv_iconst (v := 1) hx hb d_La_law_712 (by decide) ?_
  refine lv_iadd hx hb d_La_law_713 ?_
  refine va_sld hx hb hX hbl hbA hI.2 ix9.2.1 d_La_law_714 ?_
  refine gw_Vl (As := [.int (xs ((0 : Int32) + (1 : Int32)).toNatClampNeg)]) (rest := []) M hK hI (c_Gp_packet l (xs ((0 : Int32) + (1 : Int32)).toNatClampNeg) o arr fed sent places plain gained check hO sq hS hbS) k_Gp_packet m_La_99 hO (ci := 5) rfl (fun x hx => ⟨_, hx⟩) rfl hl.1 rfl (Nat.le_of_ble_eq_true rfl) ⟨rfl, rfl, ⟨Nat.le_of_ble_eq_true rfl, Nat.le_of_ble_eq_true rfl⟩, ⟨Nat.le_of_ble_eq_true rfl, Nat.le_of_ble_eq_true rfl⟩⟩ d_La_law_715 (fun x1 G9 H locs hw hI => ?_)
  obtain ⟨h_x1, hw⟩ := hw
  rw [hw] at hI
  subst h_x1
  refine lv_aload_n hx hb d_La_law_718 rfl (lv_at hl 2 rfl) ?_
  refine lv_aload_n hx hb d_La_law_719 rfl (lv_at hl 4 rfl) ?_
  refine lv_iload hx hb d_La_law_720 (lv_at hl 0 rfl) ?_
  refine lv_iconst (v := 1) hx hb d_La_law_722 (by decide) ?_
  refine lv_iadd hx hb d_La_law_723 ?_
  refine va_sld hx hb hX hbl hbA hI.2 ix9.2.1 d_La_law_724 ?_
  refine gw_Vl (As := [.int (xs ((0 : Int32) + (1 : Int32)).toNatClampNeg)]) (rest := [.long 0]) M hK hI (c_Mo_packet l (xs ((0 : Int32) + (1 : Int32)).toNatClampNeg) mo q 0 0 0 hMo hA) k_Mo_packet m_La_103 hMo (ci := 6) rfl (fun x hx => ⟨_, hx⟩) rfl hl.1 rfl (Nat.le_of_ble_eq_true rfl) ⟨rfl, rfl, ⟨Nat.le_of_ble_eq_true rfl, Nat.le_of_ble_eq_true rfl⟩, ⟨Nat.le_of_ble_eq_true rfl, Nat.le_of_ble_eq_true rfl⟩⟩ d_La_law_725 (fun x2 G3 H locs hw hI => ?_)
  obtain ⟨h_x2, hw⟩ := hw
  have hA := hA.fr hMo (show gw_fr (fun b => b = mo) G G3 from by rw [hw]; exact gw_fr.up rfl)
  have hM4 : G3 mo = some (kx (mo_ob q 0 0 0 0)) := by rw [hw]; exact gw_up_s
  have hn5 : ou ≠ mo := (ne_x hMo hU (fun q => by cases q)).symm
  have hU6 : G3 ou = some (kx (.inl (D.2 3, 1, .inr (.inl (fun _ => 0))))) := by rw [hw, gw_up_n hn5]; exact hU
  subst h_x2
  refine W.lcmp hx hb d_La_law_728 ?_
  refine lv_if_eq (tgt := 1141) hx hb d_La_law_729 (by decide) (fun c_729 => ?_) (fun q9 => absurd ((lg_cmp_eq _ _).mpr rfl) q9)
  refine W.widen (k := 400) (n := 80000) (Nat.le_of_ble_eq_true rfl) (Nat.le_of_ble_eq_true rfl) ?_
  exact law_tail C0 htr hK hI ls (lv_sub hl [0, 4] rfl)

set_option maxHeartbeats 1000000 in
set_option maxRecDepth 100000 in
theorem law_13 {p : Program} {l : Launch} {e : Env} {s : State} {m : MethodId} {below : List Frame} {meth : Method} {c : Code} {b : Nat} {xs : Nat → Int32} (C0 : lw_At p s m meth c b 9 xs) (htr : l.stackTraces = false) {D : gw_D} (hK : gw_K D s.heap s) {G : gw_G} {H : Heap} {locs : List Loc} {o mo ou : Nat} {q : Nat → Nat} (hGp : gp_new D o G) (hMo : G mo = some (kx (mo_ob q 0 0 0 0))) (hA : mo_ok D tZ q G) (hU : G ou = some (kx (.inl (D.2 3, 1, .inr (.inl (fun _ => 0)))))) (hI : gw_I D s.heap G s.heap H locs) (ls : Array Slot) (hl : lv_has ls 8 [(4, .int 0), (3, .ref ou), (2, .ref mo), (1, .ref o), (0, .ref b)]) : W p l e room_1 s m #[Value.ref b] below meth c H locs 300 70000 (lw_Z below #[Value.ref b] s) (F0 m 930 ls []) := by
  obtain ⟨hx, hb, hr, hml, hown, hts, hX, hbl, hlocks, hgv⟩ := id C0
  have M : CallFix p m c b_La_law 8 s #[Value.ref b] tb R_La := ⟨hx, hb, hml, hown, fun w h => hts w (tb_in h)⟩
  have hbA : ¬ gw_A s.heap b := Nat.not_le.mpr hbl
  obtain ⟨arr, fed, sent, places, plain, gained, check, as, ro, hO, hArr, hL, ⟨fq, hF, hbF⟩, ⟨sq, hS, hbS⟩, ⟨gq, hN, hbN⟩, hAs, hRo, hRs⟩ := hGp
  refine lv_aload_n hx hb d_La_law_930 rfl (lv_at hl 3 rfl) ?_
  refine gw_Vi (As := []) (rest := []) M hK hI (c_Gp_open l o arr fed sent places plain gained check hO sq hS hbS) k_Gp_open m_La_118 hO (ci := 5) rfl (fun x hx => ⟨_, hx⟩) rfl hl.1 rfl (Nat.le_of_ble_eq_true rfl) ⟨rfl, rfl, ⟨Nat.le_of_ble_eq_true rfl, Nat.le_of_ble_eq_true rfl⟩, ⟨Nat.le_of_ble_eq_true rfl, Nat.le_of_ble_eq_true rfl⟩⟩ d_La_law_931 (fun x1 G9 H locs hw hI => ?_)
  obtain ⟨h_x1, hw⟩ := hw
  rw [hw] at hI
  subst h_x1
  refine lv_aload_n hx hb d_La_law_934 rfl (lv_at hl 2 rfl) ?_
  refine gw_Vi (As := []) (rest := [.int (-1)]) M hK hI (c_Mo_open l mo q 0 0 0 hMo hA) k_Mo_open m_La_121 hMo (ci := 6) rfl (fun x hx => ⟨_, hx⟩) rfl hl.1 rfl (Nat.le_of_ble_eq_true rfl) ⟨rfl, rfl, ⟨Nat.le_of_ble_eq_true rfl, Nat.le_of_ble_eq_true rfl⟩, ⟨Nat.le_of_ble_eq_true rfl, Nat.le_of_ble_eq_true rfl⟩⟩ d_La_law_935 (fun x2 G3 H locs hw hI => ?_)
  obtain ⟨h_x2, hw⟩ := hw
  have hA := hA.fr hMo (show gw_fr (fun b => b = mo) G G3 from by rw [hw]; exact gw_fr.up rfl)
  have hM4 : G3 mo = some (kx (mo_ob q 0 0 0 0)) := by rw [hw]; exact gw_up_s
  have hn5 : ou ≠ mo := (ne_x hMo hU (fun q => by cases q)).symm
  have hU6 : G3 ou = some (kx (.inl (D.2 3, 1, .inr (.inl (fun _ => 0))))) := by rw [hw, gw_up_n hn5]; exact hU
  subst h_x2
  refine lv_icmp_eq (tgt := 1141) hx hb d_La_law_938 (by decide) (fun c_938 => ?_) (fun q9 => absurd (by decide) q9)
  refine W.widen (k := 400) (n := 80000) (Nat.le_of_ble_eq_true rfl) (Nat.le_of_ble_eq_true rfl) ?_
  exact law_tail C0 htr hK hI ls (lv_sub hl [0, 4] rfl)

set_option maxHeartbeats 1000000 in
set_option maxRecDepth 100000 in
theorem law_14 {p : Program} {l : Launch} {e : Env} {s : State} {m : MethodId} {below : List Frame} {meth : Method} {c : Code} {b : Nat} {xs : Nat → Int32} (C0 : lw_At p s m meth c b 9 xs) (htr : l.stackTraces = false) {D : gw_D} (hK : gw_K D s.heap s) {G : gw_G} {H : Heap} {locs : List Loc} {o mo ou : Nat} {q : Nat → Nat} (hGp : gp_new D o G) (hMo : G mo = some (kx (mo_ob q 0 0 0 0))) (hA : mo_ok D tZ q G) (hU : G ou = some (kx (.inl (D.2 3, 1, .inr (.inl (fun _ => 0)))))) (hI : gw_I D s.heap G s.heap H locs) (ls : Array Slot) (hl : lv_has ls 8 [(4, .int 0), (3, .ref ou), (2, .ref mo), (1, .ref o), (0, .ref b)]) : W p l e room_1 s m #[Value.ref b] below meth c H locs 300 70000 (lw_Z below #[Value.ref b] s) (F0 m 943 ls []) := by
  obtain ⟨hx, hb, hr, hml, hown, hts, hX, hbl, hlocks, hgv⟩ := id C0
  have M : CallFix p m c b_La_law 8 s #[Value.ref b] tb R_La := ⟨hx, hb, hml, hown, fun w h => hts w (tb_in h)⟩
  have hbA : ¬ gw_A s.heap b := Nat.not_le.mpr hbl
  obtain ⟨arr, fed, sent, places, plain, gained, check, as, ro, hO, hArr, hL, ⟨fq, hF, hbF⟩, ⟨sq, hS, hbS⟩, ⟨gq, hN, hbN⟩, hAs, hRo, hRs⟩ := hGp
  refine lv_aload_n hx hb d_La_law_943 rfl (lv_at hl 3 rfl) ?_
  refine gw_Vi (As := []) (rest := []) M hK hI (c_Gp_got l o arr fed sent places plain gained check hO gq hN hbN) k_Gp_got m_La_122 hO (ci := 5) rfl (fun x hx => ⟨_, hx⟩) rfl hl.1 rfl (Nat.le_of_ble_eq_true rfl) ⟨rfl, rfl, ⟨Nat.le_of_ble_eq_true rfl, Nat.le_of_ble_eq_true rfl⟩, ⟨Nat.le_of_ble_eq_true rfl, Nat.le_of_ble_eq_true rfl⟩⟩ d_La_law_944 (fun x1 G9 H locs hw hI => ?_)
  obtain ⟨h_x1, hw⟩ := hw
  rw [hw] at hI
  subst h_x1
  refine lv_aload_n hx hb d_La_law_947 rfl (lv_at hl 2 rfl) ?_
  refine gw_Vi (As := []) (rest := [.int 0]) M hK hI (c_Mo_got l mo q 0 0 0 0 hMo hA) k_Mo_got m_La_125 hMo (ci := 6) rfl (fun x hx => ⟨_, hx⟩) rfl hl.1 rfl (Nat.le_of_ble_eq_true rfl) ⟨rfl, rfl, ⟨Nat.le_of_ble_eq_true rfl, Nat.le_of_ble_eq_true rfl⟩, ⟨Nat.le_of_ble_eq_true rfl, Nat.le_of_ble_eq_true rfl⟩⟩ d_La_law_948 (fun x2 G3 H locs hw hI => ?_)
  obtain ⟨h_x2, hw⟩ := hw
  have hA := hA.fr hMo (show gw_fr (fun b => b = mo) G G3 from by rw [hw]; exact gw_fr.up rfl)
  have hM4 : G3 mo = some (kx (mo_ob q 0 0 0 0)) := by rw [hw]; exact gw_up_s
  have hn5 : ou ≠ mo := (ne_x hMo hU (fun q => by cases q)).symm
  have hU6 : G3 ou = some (kx (.inl (D.2 3, 1, .inr (.inl (fun _ => 0))))) := by rw [hw, gw_up_n hn5]; exact hU
  subst h_x2
  refine lv_icmp_eq (tgt := 1141) hx hb d_La_law_951 (by decide) (fun c_951 => ?_) (fun q9 => absurd (by decide) q9)
  refine W.widen (k := 400) (n := 80000) (Nat.le_of_ble_eq_true rfl) (Nat.le_of_ble_eq_true rfl) ?_
  exact law_tail C0 htr hK hI ls (lv_sub hl [0, 4] rfl)

set_option maxHeartbeats 1000000 in
set_option maxRecDepth 100000 in
theorem law_15 {p : Program} {l : Launch} {e : Env} {s : State} {m : MethodId} {below : List Frame} {meth : Method} {c : Code} {b : Nat} {xs : Nat → Int32} (C0 : lw_At p s m meth c b 9 xs) (htr : l.stackTraces = false) {D : gw_D} (hK : gw_K D s.heap s) {G : gw_G} {H : Heap} {locs : List Loc} {o mo ou : Nat} {q : Nat → Nat} (hGp : gp_new D o G) (hMo : G mo = some (kx (mo_ob q 0 0 0 0))) (hA : mo_ok D tZ q G) (hU : G ou = some (kx (.inl (D.2 3, 1, .inr (.inl (fun _ => 0)))))) (hI : gw_I D s.heap G s.heap H locs) (ls : Array Slot) (hl : lv_has ls 8 [(4, .int 0), (3, .ref ou), (2, .ref mo), (1, .ref o), (0, .ref b)]) : W p l e room_1 s m #[Value.ref b] below meth c H locs 300 70000 (lw_Z below #[Value.ref b] s) (F0 m 956 ls []) := by
  obtain ⟨hx, hb, hr, hml, hown, hts, hX, hbl, hlocks, hgv⟩ := id C0
  have M : CallFix p m c b_La_law 8 s #[Value.ref b] tb R_La := ⟨hx, hb, hml, hown, fun w h => hts w (tb_in h)⟩
  have hbA : ¬ gw_A s.heap b := Nat.not_le.mpr hbl
  obtain ⟨arr, fed, sent, places, plain, gained, check, as, ro, hO, hArr, hL, ⟨fq, hF, hbF⟩, ⟨sq, hS, hbS⟩, ⟨gq, hN, hbN⟩, hAs, hRo, hRs⟩ := hGp
  refine lv_aload_n hx hb d_La_law_956 rfl (lv_at hl 3 rfl) ?_
  refine lv_aload_n hx hb d_La_law_957 rfl (lv_at hl 4 rfl) ?_
  refine lv_iload hx hb d_La_law_958 (lv_at hl 0 rfl) ?_
  refine lv_iconst (v := 1) hx hb d_La_law_960 (by decide) ?_
  refine lv_iadd hx hb d_La_law_961 ?_
  refine va_sld hx hb hX hbl hbA hI.2 ix9.2.1 d_La_law_962 ?_
  refine gw_Vl (As := [.int (xs ((0 : Int32) + (1 : Int32)).toNatClampNeg)]) (rest := []) M hK hI (c_Gp_data l (xs ((0 : Int32) + (1 : Int32)).toNatClampNeg) o arr fed sent places plain gained check hO gq hN hbN) k_Gp_data m_La_126 hO (ci := 5) rfl (fun x hx => ⟨_, hx⟩) rfl hl.1 rfl (Nat.le_of_ble_eq_true rfl) ⟨rfl, rfl, ⟨Nat.le_of_ble_eq_true rfl, Nat.le_of_ble_eq_true rfl⟩, ⟨Nat.le_of_ble_eq_true rfl, Nat.le_of_ble_eq_true rfl⟩⟩ d_La_law_963 (fun x1 G9 H locs hw hI => ?_)
  obtain ⟨h_x1, hw⟩ := hw
  rw [hw] at hI
  subst h_x1
  refine lv_aload_n hx hb d_La_law_966 rfl (lv_at hl 2 rfl) ?_
  refine lv_aload_n hx hb d_La_law_967 rfl (lv_at hl 4 rfl) ?_
  refine lv_iload hx hb d_La_law_968 (lv_at hl 0 rfl) ?_
  refine lv_iconst (v := 1) hx hb d_La_law_970 (by decide) ?_
  refine lv_iadd hx hb d_La_law_971 ?_
  refine va_sld hx hb hX hbl hbA hI.2 ix9.2.1 d_La_law_972 ?_
  refine gw_Vl (As := [.int (xs ((0 : Int32) + (1 : Int32)).toNatClampNeg)]) (rest := [.long 0]) M hK hI (c_Mo_data l (xs ((0 : Int32) + (1 : Int32)).toNatClampNeg) mo q 0 0 0 hMo hA) k_Mo_data m_La_129 hMo (ci := 6) rfl (fun x hx => ⟨_, hx⟩) rfl hl.1 rfl (Nat.le_of_ble_eq_true rfl) ⟨rfl, rfl, ⟨Nat.le_of_ble_eq_true rfl, Nat.le_of_ble_eq_true rfl⟩, ⟨Nat.le_of_ble_eq_true rfl, Nat.le_of_ble_eq_true rfl⟩⟩ d_La_law_973 (fun x2 G3 H locs hw hI => ?_)
  obtain ⟨h_x2, hw⟩ := hw
  have hA := hA.fr hMo (show gw_fr (fun b => b = mo) G G3 from by rw [hw]; exact gw_fr.up rfl)
  have hM4 : G3 mo = some (kx (mo_ob q 0 0 0 0)) := by rw [hw]; exact gw_up_s
  have hn5 : ou ≠ mo := (ne_x hMo hU (fun q => by cases q)).symm
  have hU6 : G3 ou = some (kx (.inl (D.2 3, 1, .inr (.inl (fun _ => 0))))) := by rw [hw, gw_up_n hn5]; exact hU
  subst h_x2
  refine W.lcmp hx hb d_La_law_976 ?_
  refine lv_if_eq (tgt := 1141) hx hb d_La_law_977 (by decide) (fun c_977 => ?_) (fun q9 => absurd ((lg_cmp_eq _ _).mpr rfl) q9)
  refine W.widen (k := 400) (n := 80000) (Nat.le_of_ble_eq_true rfl) (Nat.le_of_ble_eq_true rfl) ?_
  exact law_tail C0 htr hK hI ls (lv_sub hl [0, 4] rfl)

set_option maxHeartbeats 1000000 in
set_option maxRecDepth 100000 in
theorem law_18 {p : Program} {l : Launch} {e : Env} {s : State} {m : MethodId} {below : List Frame} {meth : Method} {c : Code} {b : Nat} {xs : Nat → Int32} (C0 : lw_At p s m meth c b 9 xs) (htr : l.stackTraces = false) {D : gw_D} (hK : gw_K D s.heap s) {G : gw_G} {H : Heap} {locs : List Loc} {o mo ou : Nat} {q : Nat → Nat} (hGp : gp_new D o G) (hMo : G mo = some (kx (mo_ob q 0 0 0 0))) (hA : mo_ok D tZ q G) (hU : G ou = some (kx (.inl (D.2 3, 1, .inr (.inl (fun _ => 0)))))) (hI : gw_I D s.heap G s.heap H locs) (ls : Array Slot) (hl : lv_has ls 8 [(4, .int 0), (3, .ref ou), (2, .ref mo), (1, .ref o), (0, .ref b)]) : W p l e room_1 s m #[Value.ref b] below meth c H locs 300 70000 (lw_Z below #[Value.ref b] s) (F0 m 1116 ls []) := by
  obtain ⟨hx, hb, hr, hml, hown, hts, hX, hbl, hlocks, hgv⟩ := id C0
  have M : CallFix p m c b_La_law 8 s #[Value.ref b] tb R_La := ⟨hx, hb, hml, hown, fun w h => hts w (tb_in h)⟩
  have hbA : ¬ gw_A s.heap b := Nat.not_le.mpr hbl
  obtain ⟨arr, fed, sent, places, plain, gained, check, as, ro, hO, hArr, hL, ⟨fq, hF, hbF⟩, ⟨sq, hS, hbS⟩, ⟨gq, hN, hbN⟩, hAs, hRo, hRs⟩ := hGp
  refine lv_aload_n hx hb d_La_law_1116 rfl (lv_at hl 3 rfl) ?_
  refine lv_aload_n hx hb d_La_law_1117 rfl (lv_at hl 4 rfl) ?_
  refine lv_iload hx hb d_La_law_1118 (lv_at hl 0 rfl) ?_
  refine lv_iconst (v := 1) hx hb d_La_law_1120 (by decide) ?_
  refine lv_iadd hx hb d_La_law_1121 ?_
  refine va_sld hx hb hX hbl hbA hI.2 ix9.2.1 d_La_law_1122 ?_
  refine gw_Vi (As := [.int (xs ((0 : Int32) + (1 : Int32)).toNatClampNeg)]) (rest := []) M hK hI (c_Gp_name l (xs ((0 : Int32) + (1 : Int32)).toNatClampNeg) o arr fed sent places plain gained check hO) k_Gp_name m_La_136 hO (ci := 5) rfl (fun x hx => ⟨_, hx⟩) rfl hl.1 rfl (Nat.le_of_ble_eq_true rfl) ⟨rfl, rfl, ⟨Nat.le_of_ble_eq_true rfl, Nat.le_of_ble_eq_true rfl⟩, ⟨Nat.le_of_ble_eq_true rfl, Nat.le_of_ble_eq_true rfl⟩⟩ d_La_law_1123 (fun x1 G9 H locs hw hI => ?_)
  obtain ⟨h_x1, hw⟩ := hw
  rw [hw] at hI
  subst h_x1
  refine lv_aload_n hx hb d_La_law_1126 rfl (lv_at hl 2 rfl) ?_
  refine lv_aload_n hx hb d_La_law_1127 rfl (lv_at hl 4 rfl) ?_
  refine lv_iload hx hb d_La_law_1128 (lv_at hl 0 rfl) ?_
  refine lv_iconst (v := 1) hx hb d_La_law_1130 (by decide) ?_
  refine lv_iadd hx hb d_La_law_1131 ?_
  refine va_sld hx hb hX hbl hbA hI.2 ix9.2.1 d_La_law_1132 ?_
  refine gw_Vi (As := [.int (xs ((0 : Int32) + (1 : Int32)).toNatClampNeg)]) (rest := [.int (-1)]) M hK hI (c_Mo_name l (xs ((0 : Int32) + (1 : Int32)).toNatClampNeg) mo q 0 0 0 0 hMo hA) k_Mo_name m_La_139 hMo (ci := 6) rfl (fun x hx => ⟨_, hx⟩) rfl hl.1 rfl (Nat.le_of_ble_eq_true rfl) ⟨rfl, rfl, ⟨Nat.le_of_ble_eq_true rfl, Nat.le_of_ble_eq_true rfl⟩, ⟨Nat.le_of_ble_eq_true rfl, Nat.le_of_ble_eq_true rfl⟩⟩ d_La_law_1133 (fun x2 G3 H locs hw hI => ?_)
  obtain ⟨h_x2, hw⟩ := hw
  have hA := hA.fr hMo (show gw_fr (fun b => b = mo) G G3 from by rw [hw]; exact gw_fr.up rfl)
  have hM4 : G3 mo = some (kx (mo_ob q 0 0 0 0)) := by rw [hw]; exact gw_up_s
  have hn5 : ou ≠ mo := (ne_x hMo hU (fun q => by cases q)).symm
  have hU6 : G3 ou = some (kx (.inl (D.2 3, 1, .inr (.inl (fun _ => 0))))) := by rw [hw, gw_up_n hn5]; exact hU
  subst h_x2
  refine lv_icmp_eq (tgt := 1141) hx hb d_La_law_1136 (by decide) (fun c_1136 => ?_) (fun q9 => absurd (by decide) q9)
  refine W.widen (k := 400) (n := 80000) (Nat.le_of_ble_eq_true rfl) (Nat.le_of_ble_eq_true rfl) ?_
  exact law_tail C0 htr hK hI ls (lv_sub hl [0, 4] rfl)

set_option maxHeartbeats 1000000 in
set_option maxRecDepth 100000 in
theorem law_2 {p : Program} {l : Launch} {e : Env} {s : State} {m : MethodId} {below : List Frame} {meth : Method} {c : Code} {b : Nat} {xs : Nat → Int32} (C0 : lw_At p s m meth c b 9 xs) (htr : l.stackTraces = false) {D : gw_D} (hK : gw_K D s.heap s) {G : gw_G} {H : Heap} {locs : List Loc} {o mo ou : Nat} {q : Nat → Nat} (hGp : gp_new D o G) (hMo : G mo = some (kx (mo_ob q 0 0 0 0))) (hA : mo_ok D tZ q G) (hU : G ou = some (kx (.inl (D.2 3, 1, .inr (.inl (fun _ => 0)))))) (hI : gw_I D s.heap G s.heap H locs) (ls : Array Slot) (hl : lv_has ls 8 [(4, .int 0), (3, .ref ou), (2, .ref mo), (1, .ref o), (0, .ref b)]) : W p l e room_1 s m #[Value.ref b] below meth c H locs 300 70000 (lw_Z below #[Value.ref b] s) (F0 m 366 ls []) := by
  obtain ⟨hx, hb, hr, hml, hown, hts, hX, hbl, hlocks, hgv⟩ := id C0
  have M : CallFix p m c b_La_law 8 s #[Value.ref b] tb R_La := ⟨hx, hb, hml, hown, fun w h => hts w (tb_in h)⟩
  have hbA : ¬ gw_A s.heap b := Nat.not_le.mpr hbl
  obtain ⟨arr, fed, sent, places, plain, gained, check, as, ro, hO, hArr, hL, ⟨fq, hF, hbF⟩, ⟨sq, hS, hbS⟩, ⟨gq, hN, hbN⟩, hAs, hRo, hRs⟩ := hGp
  refine lv_aload_n hx hb d_La_law_366 rfl (lv_at hl 3 rfl) ?_
  refine lv_aload_n hx hb d_La_law_367 rfl (lv_at hl 4 rfl) ?_
  refine lv_iload hx hb d_La_law_368 (lv_at hl 0 rfl) ?_
  refine lv_iconst (v := 1) hx hb d_La_law_370 (by decide) ?_
  refine lv_iadd hx hb d_La_law_371 ?_
  refine va_sld hx hb hX hbl hbA hI.2 ix9.2.1 d_La_law_372 ?_
  refine lv_aload_n hx hb d_La_law_373 rfl (lv_at hl 4 rfl) ?_
  refine lv_iload hx hb d_La_law_374 (lv_at hl 0 rfl) ?_
  refine lv_iconst (v := 2) hx hb d_La_law_376 (by decide) ?_
  refine lv_iadd hx hb d_La_law_377 ?_
  refine va_sld hx hb hX hbl hbA hI.2 ix9.2.2.1 d_La_law_378 ?_
  refine lv_i2l hx hb d_La_law_379 rfl ?_
  refine lv_bipush (v := 32) hx hb d_La_law_380 (by decide) ?_
  refine lv_lshl hx hb d_La_law_382 rfl ?_
  refine lv_aload_n hx hb d_La_law_383 rfl (lv_at hl 4 rfl) ?_
  refine lv_iload hx hb d_La_law_384 (lv_at hl 0 rfl) ?_
  refine lv_iconst (v := 3) hx hb d_La_law_386 (by decide) ?_
  refine lv_iadd hx hb d_La_law_387 ?_
  refine va_sld hx hb hX hbl hbA hI.2 ix9.2.2.2.1 d_La_law_388 ?_
  refine lv_i2l hx hb d_La_law_389 rfl ?_
  refine lv_ldc2 (v := 4294967295) hx hb M.2.2.2.1 (M.2.2.2.2 _ o_La_59) d_La_law_390 ?_
  refine lv_land hx hb d_La_law_393 ?_
  refine lv_lor hx hb d_La_law_394 ?_
  refine gw_Wi (As := [.ref o, .int (xs ((0 : Int32) + (1 : Int32)).toNatClampNeg), .long (((((xs ((0 : Int32) + (2 : Int32)).toNatClampNeg)).toInt64) <<< (((32 : Int32)).toInt64 &&& 63)) ||| ((((xs ((0 : Int32) + (3 : Int32)).toNatClampNeg)).toInt64) &&& (4294967295 : Int64)))]) (rest := []) M hK hI (c_La_hurryt l htr (xs ((0 : Int32) + (1 : Int32)).toNatClampNeg) ((((xs ((0 : Int32) + (2 : Int32)).toNatClampNeg)).toInt64 <<< ((32 : Int32).toInt64 &&& 63)) ||| (((xs ((0 : Int32) + (3 : Int32)).toNatClampNeg)).toInt64 &&& (4294967295 : Int64))) o arr fed sent places plain gained check hO) k_La_hurry m_La_76 rfl hl.1 rfl (Nat.le_of_ble_eq_true rfl) ⟨rfl, rfl, ⟨Nat.le_of_ble_eq_true rfl, Nat.le_of_ble_eq_true rfl⟩, ⟨Nat.le_of_ble_eq_true rfl, Nat.le_of_ble_eq_true rfl⟩⟩ d_La_law_395 (fun x1 G2 H locs hw hI => ?_)
  obtain ⟨h_x1, hw⟩ := hw
  subst h_x1
  rw [hw] at hI
  refine lv_istore (lv' := [(5, .int 1), (4, .int 0), (3, .ref ou), (2, .ref mo), (1, .ref o), (0, .ref b)]) hx hb d_La_law_398 hl (by decide) rfl (fun ls hl => ?_)
  refine lv_aload_n hx hb d_La_law_400 rfl (lv_at hl 3 rfl) ?_
  refine lv_aload_n hx hb d_La_law_401 rfl (lv_at hl 5 rfl) ?_
  refine lv_iload hx hb d_La_law_402 (lv_at hl 1 rfl) ?_
  refine lv_iconst (v := 1) hx hb d_La_law_404 (by decide) ?_
  refine lv_iadd hx hb d_La_law_405 ?_
  refine va_sld hx hb hX hbl hbA hI.2 ix9.2.1 d_La_law_406 ?_
  refine lv_aload_n hx hb d_La_law_407 rfl (lv_at hl 5 rfl) ?_
  refine lv_iload hx hb d_La_law_408 (lv_at hl 1 rfl) ?_
  refine lv_iconst (v := 2) hx hb d_La_law_410 (by decide) ?_
  refine lv_iadd hx hb d_La_law_411 ?_
  refine va_sld hx hb hX hbl hbA hI.2 ix9.2.2.1 d_La_law_412 ?_
  refine lv_i2l hx hb d_La_law_413 rfl ?_
  refine lv_bipush (v := 32) hx hb d_La_law_414 (by decide) ?_
  refine lv_lshl hx hb d_La_law_416 rfl ?_
  refine lv_aload_n hx hb d_La_law_417 rfl (lv_at hl 5 rfl) ?_
  refine lv_iload hx hb d_La_law_418 (lv_at hl 1 rfl) ?_
  refine lv_iconst (v := 3) hx hb d_La_law_420 (by decide) ?_
  refine lv_iadd hx hb d_La_law_421 ?_
  refine va_sld hx hb hX hbl hbA hI.2 ix9.2.2.2.1 d_La_law_422 ?_
  refine lv_i2l hx hb d_La_law_423 rfl ?_
  refine lv_ldc2 (v := 4294967295) hx hb M.2.2.2.1 (M.2.2.2.2 _ o_La_59) d_La_law_424 ?_
  refine lv_land hx hb d_La_law_427 ?_
  refine lv_lor hx hb d_La_law_428 ?_
  refine gw_Vv (As := [.int (xs ((0 : Int32) + (1 : Int32)).toNatClampNeg), .long (((((xs ((0 : Int32) + (2 : Int32)).toNatClampNeg)).toInt64) <<< (((32 : Int32)).toInt64 &&& 63)) ||| ((((xs ((0 : Int32) + (3 : Int32)).toNatClampNeg)).toInt64) &&& (4294967295 : Int64)))]) (rest := []) M hK hI (c_Mo_hurry l (xs ((0 : Int32) + (1 : Int32)).toNatClampNeg) ((((xs ((0 : Int32) + (2 : Int32)).toNatClampNeg)).toInt64 <<< ((32 : Int32).toInt64 &&& 63)) ||| (((xs ((0 : Int32) + (3 : Int32)).toNatClampNeg)).toInt64 &&& (4294967295 : Int64))) mo q 0 0 0 0 hMo hA) k_Mo_hurry m_La_79 hMo (ci := 6) rfl (fun x hx => ⟨_, hx⟩) rfl hl.1 rfl (Nat.le_of_ble_eq_true rfl) ⟨rfl, rfl, ⟨Nat.le_of_ble_eq_true rfl, Nat.le_of_ble_eq_true rfl⟩, ⟨Nat.le_of_ble_eq_true rfl, Nat.le_of_ble_eq_true rfl⟩⟩ d_La_law_429 (fun G4 H locs hw hI => ?_)
  have hA := hA.fr hMo (show gw_fr (fun b => b = mo) G G4 from by rw [hw]; exact gw_fr.up rfl)
  have hM5 : G4 mo = some (kx (mo_ob q 1 0 0 0)) := by rw [hw]; exact gw_up_s
  have hn6 : ou ≠ mo := (ne_x hMo hU (fun q => by cases q)).symm
  have hU7 : G4 ou = some (kx (.inl (D.2 3, 1, .inr (.inl (fun _ => 0))))) := by rw [hw, gw_up_n hn6]; exact hU
  refine lv_aload_n hx hb d_La_law_432 rfl (lv_at hl 3 rfl) ?_
  refine gw_Vi (As := []) (rest := []) M hK hI (c_Mo_thrown l mo q 1 0 0 0 hM5 hA) k_Mo_thrown m_La_67 hM5 (ci := 6) rfl (fun x hx => ⟨_, hx⟩) rfl hl.1 rfl (Nat.le_of_ble_eq_true rfl) ⟨rfl, rfl, ⟨Nat.le_of_ble_eq_true rfl, Nat.le_of_ble_eq_true rfl⟩, ⟨Nat.le_of_ble_eq_true rfl, Nat.le_of_ble_eq_true rfl⟩⟩ d_La_law_433 (fun x8 G9 H locs hw hI => ?_)
  obtain ⟨h_x8, hw9⟩ := hw
  rw [hw9] at hI
  subst h_x8
  refine lv_iload hx hb d_La_law_436 (lv_at hl 0 rfl) ?_
  refine lv_icmp_eq (tgt := 443) hx hb d_La_law_438 (by decide) (fun c_438 => ?_) (fun q9 => absurd (by decide) q9)
  refine lv_goto (tgt := 1141) hx hb d_La_law_443 (by decide) ?_
  refine W.widen (k := 400) (n := 80000) (Nat.le_of_ble_eq_true rfl) (Nat.le_of_ble_eq_true rfl) ?_
  exact law_tail C0 htr hK hI ls (lv_sub hl [1, 5] rfl)

set_option maxHeartbeats 1000000 in
set_option maxRecDepth 100000 in
theorem law_3 {p : Program} {l : Launch} {e : Env} {s : State} {m : MethodId} {below : List Frame} {meth : Method} {c : Code} {b : Nat} {xs : Nat → Int32} (C0 : lw_At p s m meth c b 9 xs) (htr : l.stackTraces = false) {D : gw_D} (hK : gw_K D s.heap s) {G : gw_G} {H : Heap} {locs : List Loc} {o mo ou : Nat} {q : Nat → Nat} (hGp : gp_new D o G) (hMo : G mo = some (kx (mo_ob q 0 0 0 0))) (hA : mo_ok D tZ q G) (hU : G ou = some (kx (.inl (D.2 3, 1, .inr (.inl (fun _ => 0)))))) (hI : gw_I D s.heap G s.heap H locs) (ls : Array Slot) (hl : lv_has ls 8 [(4, .int 0), (3, .ref ou), (2, .ref mo), (1, .ref o), (0, .ref b)]) : W p l e room_1 s m #[Value.ref b] below meth c H locs 300 70000 (lw_Z below #[Value.ref b] s) (F0 m 446 ls []) := by
  obtain ⟨hx, hb, hr, hml, hown, hts, hX, hbl, hlocks, hgv⟩ := id C0
  have M : CallFix p m c b_La_law 8 s #[Value.ref b] tb R_La := ⟨hx, hb, hml, hown, fun w h => hts w (tb_in h)⟩
  have hbA : ¬ gw_A s.heap b := Nat.not_le.mpr hbl
  obtain ⟨arr, fed, sent, places, plain, gained, check, as, ro, hO, hArr, hL, ⟨fq, hF, hbF⟩, ⟨sq, hS, hbS⟩, ⟨gq, hN, hbN⟩, hAs, hRo, hRs⟩ := hGp
  refine lv_aload_n hx hb d_La_law_446 rfl (lv_at hl 3 rfl) ?_
  refine lv_aload_n hx hb d_La_law_447 rfl (lv_at hl 4 rfl) ?_
  refine lv_iload hx hb d_La_law_448 (lv_at hl 0 rfl) ?_
  refine lv_iconst (v := 1) hx hb d_La_law_450 (by decide) ?_
  refine lv_iadd hx hb d_La_law_451 ?_
  refine va_sld hx hb hX hbl hbA hI.2 ix9.2.1 d_La_law_452 ?_
  refine lv_aload_n hx hb d_La_law_453 rfl (lv_at hl 4 rfl) ?_
  refine lv_iload hx hb d_La_law_454 (lv_at hl 0 rfl) ?_
  refine lv_iconst (v := 2) hx hb d_La_law_456 (by decide) ?_
  refine lv_iadd hx hb d_La_law_457 ?_
  refine va_sld hx hb hX hbl hbA hI.2 ix9.2.2.1 d_La_law_458 ?_
  refine lv_aload_n hx hb d_La_law_459 rfl (lv_at hl 1 rfl) ?_
  refine gw_Wi (As := [.ref o, .int (xs ((0 : Int32) + (1 : Int32)).toNatClampNeg), .int (xs ((0 : Int32) + (2 : Int32)).toNatClampNeg), .ref ou]) (rest := []) M hK hI (c_La_lifet l htr (xs ((0 : Int32) + (1 : Int32)).toNatClampNeg) (xs ((0 : Int32) + (2 : Int32)).toNatClampNeg) ou o arr fed sent places plain gained check hO) k_La_life m_La_80 rfl hl.1 rfl (Nat.le_of_ble_eq_true rfl) ⟨rfl, rfl, ⟨Nat.le_of_ble_eq_true rfl, Nat.le_of_ble_eq_true rfl⟩, ⟨Nat.le_of_ble_eq_true rfl, Nat.le_of_ble_eq_true rfl⟩⟩ d_La_law_460 (fun x1 G2 H locs hw hI => ?_)
  obtain ⟨h_x1, hw⟩ := hw
  subst h_x1
  rw [hw] at hI
  refine lv_istore (lv' := [(5, .int 1), (4, .int 0), (3, .ref ou), (2, .ref mo), (1, .ref o), (0, .ref b)]) hx hb d_La_law_463 hl (by decide) rfl (fun ls hl => ?_)
  refine lv_aload_n hx hb d_La_law_465 rfl (lv_at hl 3 rfl) ?_
  refine lv_aload_n hx hb d_La_law_466 rfl (lv_at hl 5 rfl) ?_
  refine lv_iload hx hb d_La_law_467 (lv_at hl 1 rfl) ?_
  refine lv_iconst (v := 1) hx hb d_La_law_469 (by decide) ?_
  refine lv_iadd hx hb d_La_law_470 ?_
  refine va_sld hx hb hX hbl hbA hI.2 ix9.2.1 d_La_law_471 ?_
  refine lv_aload_n hx hb d_La_law_472 rfl (lv_at hl 5 rfl) ?_
  refine lv_iload hx hb d_La_law_473 (lv_at hl 1 rfl) ?_
  refine lv_iconst (v := 2) hx hb d_La_law_475 (by decide) ?_
  refine lv_iadd hx hb d_La_law_476 ?_
  refine va_sld hx hb hX hbl hbA hI.2 ix9.2.2.1 d_La_law_477 ?_
  refine gw_Vi (As := [.int (xs ((0 : Int32) + (1 : Int32)).toNatClampNeg), .int (xs ((0 : Int32) + (2 : Int32)).toNatClampNeg)]) (rest := []) M hK hI (c_Mo_life l (xs ((0 : Int32) + (1 : Int32)).toNatClampNeg) (xs ((0 : Int32) + (2 : Int32)).toNatClampNeg) mo q 0 0 0 0 hMo hA) k_Mo_life m_La_83 hMo (ci := 6) rfl (fun x hx => ⟨_, hx⟩) rfl hl.1 rfl (Nat.le_of_ble_eq_true rfl) ⟨rfl, rfl, ⟨Nat.le_of_ble_eq_true rfl, Nat.le_of_ble_eq_true rfl⟩, ⟨Nat.le_of_ble_eq_true rfl, Nat.le_of_ble_eq_true rfl⟩⟩ d_La_law_478 (fun x3 G4 H locs hw hI => ?_)
  have hA := hA.fr hMo (show gw_fr (fun b => b = mo) G G4 from by rw [hw]; exact gw_fr.up rfl)
  have hM5 : G4 mo = some (kx (mo_ob q 1 0 0 0)) := by rw [hw]; exact gw_up_s
  have hn6 : ou ≠ mo := (ne_x hMo hU (fun q => by cases q)).symm
  have hU7 : G4 ou = some (kx (.inl (D.2 3, 1, .inr (.inl (fun _ => 0))))) := by rw [hw, gw_up_n hn6]; exact hU
  refine lv_istore (lv' := [(6, .int x3), (5, .int 1), (4, .int 0), (3, .ref ou), (2, .ref mo), (1, .ref o), (0, .ref b)]) hx hb d_La_law_481 hl (by decide) rfl (fun ls hl => ?_)
  refine lv_aload_n hx hb d_La_law_483 rfl (lv_at hl 4 rfl) ?_
  refine gw_Vi (As := []) (rest := []) M hK hI (c_Mo_thrown l mo q 1 0 0 0 hM5 hA) k_Mo_thrown m_La_67 hM5 (ci := 6) rfl (fun x hx => ⟨_, hx⟩) rfl hl.1 rfl (Nat.le_of_ble_eq_true rfl) ⟨rfl, rfl, ⟨Nat.le_of_ble_eq_true rfl, Nat.le_of_ble_eq_true rfl⟩, ⟨Nat.le_of_ble_eq_true rfl, Nat.le_of_ble_eq_true rfl⟩⟩ d_La_law_484 (fun x8 G9 H locs hw hI => ?_)
  obtain ⟨h_x8, hw9⟩ := hw
  rw [hw9] at hI
  subst h_x8
  refine lv_iload hx hb d_La_law_487 (lv_at hl 1 rfl) ?_
  refine lv_icmp_eq (tgt := 494) hx hb d_La_law_489 (by decide) (fun c_489 => ?_) (fun q9 => absurd (by decide) q9)
  refine lv_iload hx hb d_La_law_494 (lv_at hl 1 rfl) ?_
  refine lv_if_ne (tgt := 511) hx hb d_La_law_496 (by decide) (fun c_496 => ?_) (fun q9 => absurd q9 (by decide))
  refine lv_goto (tgt := 1141) hx hb d_La_law_511 (by decide) ?_
  refine W.widen (k := 400) (n := 80000) (Nat.le_of_ble_eq_true rfl) (Nat.le_of_ble_eq_true rfl) ?_
  exact law_tail C0 htr hK hI ls (lv_sub hl [2, 6] rfl)

set_option maxHeartbeats 1000000 in
set_option maxRecDepth 100000 in
theorem law_6 {p : Program} {l : Launch} {e : Env} {s : State} {m : MethodId} {below : List Frame} {meth : Method} {c : Code} {b : Nat} {xs : Nat → Int32} (C0 : lw_At p s m meth c b 9 xs) (htr : l.stackTraces = false) {D : gw_D} (hK : gw_K D s.heap s) {G : gw_G} {H : Heap} {locs : List Loc} {o mo ou : Nat} {q : Nat → Nat} (hGp : gp_new D o G) (hMo : G mo = some (kx (mo_ob q 0 0 0 0))) (hA : mo_ok D tZ q G) (hU : G ou = some (kx (.inl (D.2 3, 1, .inr (.inl (fun _ => 0)))))) (hI : gw_I D s.heap G s.heap H locs) (ls : Array Slot) (hl : lv_has ls 8 [(4, .int 0), (3, .ref ou), (2, .ref mo), (1, .ref o), (0, .ref b)]) : W p l e room_1 s m #[Value.ref b] below meth c H locs 300 70000 (lw_Z below #[Value.ref b] s) (F0 m 627 ls []) := by
  obtain ⟨hx, hb, hr, hml, hown, hts, hX, hbl, hlocks, hgv⟩ := id C0
  have M : CallFix p m c b_La_law 8 s #[Value.ref b] tb R_La := ⟨hx, hb, hml, hown, fun w h => hts w (tb_in h)⟩
  have hbA : ¬ gw_A s.heap b := Nat.not_le.mpr hbl
  obtain ⟨arr, fed, sent, places, plain, gained, check, as, ro, hO, hArr, hL, ⟨fq, hF, hbF⟩, ⟨sq, hS, hbS⟩, ⟨gq, hN, hbN⟩, hAs, hRo, hRs⟩ := hGp
  refine lv_aload_n hx hb d_La_law_627 rfl (lv_at hl 3 rfl) ?_
  refine lv_aload_n hx hb d_La_law_628 rfl (lv_at hl 4 rfl) ?_
  refine lv_iload hx hb d_La_law_629 (lv_at hl 0 rfl) ?_
  refine lv_iconst (v := 1) hx hb d_La_law_631 (by decide) ?_
  refine lv_iadd hx hb d_La_law_632 ?_
  refine va_sld hx hb hX hbl hbA hI.2 ix9.2.1 d_La_law_633 ?_
  refine lv_aload_n hx hb d_La_law_634 rfl (lv_at hl 4 rfl) ?_
  refine lv_iload hx hb d_La_law_635 (lv_at hl 0 rfl) ?_
  refine lv_iconst (v := 2) hx hb d_La_law_637 (by decide) ?_
  refine lv_iadd hx hb d_La_law_638 ?_
  refine va_sld hx hb hX hbl hbA hI.2 ix9.2.2.1 d_La_law_639 ?_
  refine lv_aload_n hx hb d_La_law_640 rfl (lv_at hl 1 rfl) ?_
  refine gw_Wi (As := [.ref o, .int (xs ((0 : Int32) + (1 : Int32)).toNatClampNeg), .int (xs ((0 : Int32) + (2 : Int32)).toNatClampNeg), .ref ou]) (rest := []) M hK hI (c_La_sealt l htr (xs ((0 : Int32) + (1 : Int32)).toNatClampNeg) (xs ((0 : Int32) + (2 : Int32)).toNatClampNeg) ou o arr fed sent places plain gained check hO) k_La_seal m_La_92 rfl hl.1 rfl (Nat.le_of_ble_eq_true rfl) ⟨rfl, rfl, ⟨Nat.le_of_ble_eq_true rfl, Nat.le_of_ble_eq_true rfl⟩, ⟨Nat.le_of_ble_eq_true rfl, Nat.le_of_ble_eq_true rfl⟩⟩ d_La_law_641 (fun x1 G2 H locs hw hI => ?_)
  obtain ⟨h_x1, hw⟩ := hw
  subst h_x1
  rw [hw] at hI
  refine lv_istore (lv' := [(5, .int 1), (4, .int 0), (3, .ref ou), (2, .ref mo), (1, .ref o), (0, .ref b)]) hx hb d_La_law_644 hl (by decide) rfl (fun ls hl => ?_)
  refine lv_aload_n hx hb d_La_law_646 rfl (lv_at hl 3 rfl) ?_
  refine lv_aload_n hx hb d_La_law_647 rfl (lv_at hl 5 rfl) ?_
  refine lv_iload hx hb d_La_law_648 (lv_at hl 1 rfl) ?_
  refine lv_iconst (v := 1) hx hb d_La_law_650 (by decide) ?_
  refine lv_iadd hx hb d_La_law_651 ?_
  refine va_sld hx hb hX hbl hbA hI.2 ix9.2.1 d_La_law_652 ?_
  refine lv_aload_n hx hb d_La_law_653 rfl (lv_at hl 5 rfl) ?_
  refine lv_iload hx hb d_La_law_654 (lv_at hl 1 rfl) ?_
  refine lv_iconst (v := 2) hx hb d_La_law_656 (by decide) ?_
  refine lv_iadd hx hb d_La_law_657 ?_
  refine va_sld hx hb hX hbl hbA hI.2 ix9.2.2.1 d_La_law_658 ?_
  refine gw_Vi (As := [.int (xs ((0 : Int32) + (1 : Int32)).toNatClampNeg), .int (xs ((0 : Int32) + (2 : Int32)).toNatClampNeg)]) (rest := []) M hK hI (c_Mo_seal l (xs ((0 : Int32) + (1 : Int32)).toNatClampNeg) (xs ((0 : Int32) + (2 : Int32)).toNatClampNeg) mo q 0 0 0 0 hMo hA) k_Mo_seal m_La_94 hMo (ci := 6) rfl (fun x hx => ⟨_, hx⟩) rfl hl.1 rfl (Nat.le_of_ble_eq_true rfl) ⟨rfl, rfl, ⟨Nat.le_of_ble_eq_true rfl, Nat.le_of_ble_eq_true rfl⟩, ⟨Nat.le_of_ble_eq_true rfl, Nat.le_of_ble_eq_true rfl⟩⟩ d_La_law_659 (fun x3 G4 H locs hw hI => ?_)
  have hA := hA.fr hMo (show gw_fr (fun b => b = mo) G G4 from by rw [hw]; exact gw_fr.up rfl)
  have hM5 : G4 mo = some (kx (mo_ob q 1 0 0 0)) := by rw [hw]; exact gw_up_s
  have hn6 : ou ≠ mo := (ne_x hMo hU (fun q => by cases q)).symm
  have hU7 : G4 ou = some (kx (.inl (D.2 3, 1, .inr (.inl (fun _ => 0))))) := by rw [hw, gw_up_n hn6]; exact hU
  refine lv_istore (lv' := [(6, .int x3), (5, .int 1), (4, .int 0), (3, .ref ou), (2, .ref mo), (1, .ref o), (0, .ref b)]) hx hb d_La_law_662 hl (by decide) rfl (fun ls hl => ?_)
  refine lv_aload_n hx hb d_La_law_664 rfl (lv_at hl 4 rfl) ?_
  refine gw_Vi (As := []) (rest := []) M hK hI (c_Mo_thrown l mo q 1 0 0 0 hM5 hA) k_Mo_thrown m_La_67 hM5 (ci := 6) rfl (fun x hx => ⟨_, hx⟩) rfl hl.1 rfl (Nat.le_of_ble_eq_true rfl) ⟨rfl, rfl, ⟨Nat.le_of_ble_eq_true rfl, Nat.le_of_ble_eq_true rfl⟩, ⟨Nat.le_of_ble_eq_true rfl, Nat.le_of_ble_eq_true rfl⟩⟩ d_La_law_665 (fun x8 G9 H locs hw hI => ?_)
  obtain ⟨h_x8, hw9⟩ := hw
  rw [hw9] at hI
  subst h_x8
  refine lv_iload hx hb d_La_law_668 (lv_at hl 1 rfl) ?_
  refine lv_icmp_eq (tgt := 675) hx hb d_La_law_670 (by decide) (fun c_670 => ?_) (fun q9 => absurd (by decide) q9)
  refine lv_iload hx hb d_La_law_675 (lv_at hl 1 rfl) ?_
  refine lv_if_ne (tgt := 692) hx hb d_La_law_677 (by decide) (fun c_677 => ?_) (fun q9 => absurd q9 (by decide))
  refine lv_goto (tgt := 1141) hx hb d_La_law_692 (by decide) ?_
  refine W.widen (k := 400) (n := 80000) (Nat.le_of_ble_eq_true rfl) (Nat.le_of_ble_eq_true rfl) ?_
  exact law_tail C0 htr hK hI ls (lv_sub hl [2, 6] rfl)

set_option maxHeartbeats 1000000 in
set_option maxRecDepth 100000 in
theorem law_9 {p : Program} {l : Launch} {e : Env} {s : State} {m : MethodId} {below : List Frame} {meth : Method} {c : Code} {b : Nat} {xs : Nat → Int32} (C0 : lw_At p s m meth c b 9 xs) (htr : l.stackTraces = false) {D : gw_D} (hK : gw_K D s.heap s) {G : gw_G} {H : Heap} {locs : List Loc} {o mo ou : Nat} {q : Nat → Nat} (hGp : gp_new D o G) (hMo : G mo = some (kx (mo_ob q 0 0 0 0))) (hA : mo_ok D tZ q G) (hU : G ou = some (kx (.inl (D.2 3, 1, .inr (.inl (fun _ => 0)))))) (hI : gw_I D s.heap G s.heap H locs) (ls : Array Slot) (hl : lv_has ls 8 [(4, .int 0), (3, .ref ou), (2, .ref mo), (1, .ref o), (0, .ref b)]) : W p l e room_1 s m #[Value.ref b] below meth c H locs 300 70000 (lw_Z below #[Value.ref b] s) (F0 m 734 ls []) := by
  obtain ⟨hx, hb, hr, hml, hown, hts, hX, hbl, hlocks, hgv⟩ := id C0
  have M : CallFix p m c b_La_law 8 s #[Value.ref b] tb R_La := ⟨hx, hb, hml, hown, fun w h => hts w (tb_in h)⟩
  have hbA : ¬ gw_A s.heap b := Nat.not_le.mpr hbl
  obtain ⟨arr, fed, sent, places, plain, gained, check, as, ro, hO, hArr, hL, ⟨fq, hF, hbF⟩, ⟨sq, hS, hbS⟩, ⟨gq, hN, hbN⟩, hAs, hRo, hRs⟩ := hGp
  refine lv_aload_n hx hb d_La_law_734 rfl (lv_at hl 3 rfl) ?_
  refine lv_aload_n hx hb d_La_law_735 rfl (lv_at hl 4 rfl) ?_
  refine lv_iload hx hb d_La_law_736 (lv_at hl 0 rfl) ?_
  refine lv_iconst (v := 1) hx hb d_La_law_738 (by decide) ?_
  refine lv_iadd hx hb d_La_law_739 ?_
  refine va_sld hx hb hX hbl hbA hI.2 ix9.2.1 d_La_law_740 ?_
  refine lv_aload_n hx hb d_La_law_741 rfl (lv_at hl 4 rfl) ?_
  refine lv_iload hx hb d_La_law_742 (lv_at hl 0 rfl) ?_
  refine lv_iconst (v := 2) hx hb d_La_law_744 (by decide) ?_
  refine lv_iadd hx hb d_La_law_745 ?_
  refine va_sld hx hb hX hbl hbA hI.2 ix9.2.2.1 d_La_law_746 ?_
  refine lv_aload_n hx hb d_La_law_747 rfl (lv_at hl 1 rfl) ?_
  refine gw_Wi (As := [.ref o, .int (xs ((0 : Int32) + (1 : Int32)).toNatClampNeg), .int (xs ((0 : Int32) + (2 : Int32)).toNatClampNeg), .ref ou]) (rest := []) M hK hI (c_La_spoilt l htr (xs ((0 : Int32) + (1 : Int32)).toNatClampNeg) (xs ((0 : Int32) + (2 : Int32)).toNatClampNeg) ou o arr fed sent places plain gained check hO sq hS hbS) k_La_spoil m_La_104 rfl hl.1 rfl (Nat.le_of_ble_eq_true rfl) ⟨rfl, rfl, ⟨Nat.le_of_ble_eq_true rfl, Nat.le_of_ble_eq_true rfl⟩, ⟨Nat.le_of_ble_eq_true rfl, Nat.le_of_ble_eq_true rfl⟩⟩ d_La_law_748 (fun x1 G2 H locs hw hI => ?_)
  obtain ⟨h_x1, hw⟩ := hw
  subst h_x1
  rw [hw] at hI
  refine lv_istore (lv' := [(5, .int 1), (4, .int 0), (3, .ref ou), (2, .ref mo), (1, .ref o), (0, .ref b)]) hx hb d_La_law_751 hl (by decide) rfl (fun ls hl => ?_)
  refine lv_aload_n hx hb d_La_law_753 rfl (lv_at hl 3 rfl) ?_
  refine lv_aload_n hx hb d_La_law_754 rfl (lv_at hl 5 rfl) ?_
  refine lv_iload hx hb d_La_law_755 (lv_at hl 1 rfl) ?_
  refine lv_iconst (v := 1) hx hb d_La_law_757 (by decide) ?_
  refine lv_iadd hx hb d_La_law_758 ?_
  refine va_sld hx hb hX hbl hbA hI.2 ix9.2.1 d_La_law_759 ?_
  refine lv_aload_n hx hb d_La_law_760 rfl (lv_at hl 5 rfl) ?_
  refine lv_iload hx hb d_La_law_761 (lv_at hl 1 rfl) ?_
  refine lv_iconst (v := 2) hx hb d_La_law_763 (by decide) ?_
  refine lv_iadd hx hb d_La_law_764 ?_
  refine va_sld hx hb hX hbl hbA hI.2 ix9.2.2.1 d_La_law_765 ?_
  refine gw_Vi (As := [.int (xs ((0 : Int32) + (1 : Int32)).toNatClampNeg), .int (xs ((0 : Int32) + (2 : Int32)).toNatClampNeg)]) (rest := []) M hK hI (c_Mo_spoil l (xs ((0 : Int32) + (1 : Int32)).toNatClampNeg) (xs ((0 : Int32) + (2 : Int32)).toNatClampNeg) mo q 0 0 0 hMo hA) k_Mo_spoil m_La_106 hMo (ci := 6) rfl (fun x hx => ⟨_, hx⟩) rfl hl.1 rfl (Nat.le_of_ble_eq_true rfl) ⟨rfl, rfl, ⟨Nat.le_of_ble_eq_true rfl, Nat.le_of_ble_eq_true rfl⟩, ⟨Nat.le_of_ble_eq_true rfl, Nat.le_of_ble_eq_true rfl⟩⟩ d_La_law_766 (fun x3 G4 H locs hw hI => ?_)
  have hA := hA.fr hMo (show gw_fr (fun b => b = mo) G G4 from by rw [hw]; exact gw_fr.up rfl)
  have hM5 : G4 mo = some (kx (mo_ob q 1 0 0 0)) := by rw [hw]; exact gw_up_s
  have hn6 : ou ≠ mo := (ne_x hMo hU (fun q => by cases q)).symm
  have hU7 : G4 ou = some (kx (.inl (D.2 3, 1, .inr (.inl (fun _ => 0))))) := by rw [hw, gw_up_n hn6]; exact hU
  refine lv_istore (lv' := [(6, .int x3), (5, .int 1), (4, .int 0), (3, .ref ou), (2, .ref mo), (1, .ref o), (0, .ref b)]) hx hb d_La_law_769 hl (by decide) rfl (fun ls hl => ?_)
  refine lv_aload_n hx hb d_La_law_771 rfl (lv_at hl 4 rfl) ?_
  refine gw_Vi (As := []) (rest := []) M hK hI (c_Mo_thrown l mo q 1 0 0 0 hM5 hA) k_Mo_thrown m_La_67 hM5 (ci := 6) rfl (fun x hx => ⟨_, hx⟩) rfl hl.1 rfl (Nat.le_of_ble_eq_true rfl) ⟨rfl, rfl, ⟨Nat.le_of_ble_eq_true rfl, Nat.le_of_ble_eq_true rfl⟩, ⟨Nat.le_of_ble_eq_true rfl, Nat.le_of_ble_eq_true rfl⟩⟩ d_La_law_772 (fun x8 G9 H locs hw hI => ?_)
  obtain ⟨h_x8, hw9⟩ := hw
  rw [hw9] at hI
  subst h_x8
  refine lv_iload hx hb d_La_law_775 (lv_at hl 1 rfl) ?_
  refine lv_icmp_eq (tgt := 782) hx hb d_La_law_777 (by decide) (fun c_777 => ?_) (fun q9 => absurd (by decide) q9)
  refine lv_iload hx hb d_La_law_782 (lv_at hl 1 rfl) ?_
  refine lv_if_ne (tgt := 799) hx hb d_La_law_784 (by decide) (fun c_784 => ?_) (fun q9 => absurd q9 (by decide))
  refine lv_goto (tgt := 1141) hx hb d_La_law_799 (by decide) ?_
  refine W.widen (k := 400) (n := 80000) (Nat.le_of_ble_eq_true rfl) (Nat.le_of_ble_eq_true rfl) ?_
  exact law_tail C0 htr hK hI ls (lv_sub hl [2, 6] rfl)

set_option maxHeartbeats 1000000 in
set_option maxRecDepth 100000 in
theorem law_16 {p : Program} {l : Launch} {e : Env} {s : State} {m : MethodId} {below : List Frame} {meth : Method} {c : Code} {b : Nat} {xs : Nat → Int32} (C0 : lw_At p s m meth c b 9 xs) (htr : l.stackTraces = false) {D : gw_D} (hK : gw_K D s.heap s) {G : gw_G} {H : Heap} {locs : List Loc} {o mo ou : Nat} {q : Nat → Nat} (hGp : gp_new D o G) (hMo : G mo = some (kx (mo_ob q 0 0 0 0))) (hA : mo_ok D tZ q G) (hU : G ou = some (kx (.inl (D.2 3, 1, .inr (.inl (fun _ => 0)))))) (hI : gw_I D s.heap G s.heap H locs) (ls : Array Slot) (hl : lv_has ls 8 [(4, .int 0), (3, .ref ou), (2, .ref mo), (1, .ref o), (0, .ref b)]) : W p l e room_1 s m #[Value.ref b] below meth c H locs 300 70000 (lw_Z below #[Value.ref b] s) (F0 m 982 ls []) := by
  obtain ⟨hx, hb, hr, hml, hown, hts, hX, hbl, hlocks, hgv⟩ := id C0
  have M : CallFix p m c b_La_law 8 s #[Value.ref b] tb R_La := ⟨hx, hb, hml, hown, fun w h => hts w (tb_in h)⟩
  have hbA : ¬ gw_A s.heap b := Nat.not_le.mpr hbl
  obtain ⟨arr, fed, sent, places, plain, gained, check, as, ro, hO, hArr, hL, ⟨fq, hF, hbF⟩, ⟨sq, hS, hbS⟩, ⟨gq, hN, hbN⟩, hAs, hRo, hRs⟩ := hGp
  refine lv_aload_n hx hb d_La_law_982 rfl (lv_at hl 3 rfl) ?_
  refine lv_aload_n hx hb d_La_law_983 rfl (lv_at hl 4 rfl) ?_
  refine lv_iload hx hb d_La_law_984 (lv_at hl 0 rfl) ?_
  refine lv_iconst (v := 1) hx hb d_La_law_986 (by decide) ?_
  refine lv_iadd hx hb d_La_law_987 ?_
  refine va_sld hx hb hX hbl hbA hI.2 ix9.2.1 d_La_law_988 ?_
  refine lv_aload_n hx hb d_La_law_989 rfl (lv_at hl 4 rfl) ?_
  refine lv_iload hx hb d_La_law_990 (lv_at hl 0 rfl) ?_
  refine lv_iconst (v := 2) hx hb d_La_law_992 (by decide) ?_
  refine lv_iadd hx hb d_La_law_993 ?_
  refine va_sld hx hb hX hbl hbA hI.2 ix9.2.2.1 d_La_law_994 ?_
  refine lv_aload_n hx hb d_La_law_995 rfl (lv_at hl 1 rfl) ?_
  refine gw_Wi (As := [.ref o, .int (xs ((0 : Int32) + (1 : Int32)).toNatClampNeg), .int (xs ((0 : Int32) + (2 : Int32)).toNatClampNeg), .ref ou]) (rest := []) M hK hI (c_La_toldt l htr (xs ((0 : Int32) + (1 : Int32)).toNatClampNeg) (xs ((0 : Int32) + (2 : Int32)).toNatClampNeg) ou o arr fed sent places plain gained check hO) k_La_told m_La_130 rfl hl.1 rfl (Nat.le_of_ble_eq_true rfl) ⟨rfl, rfl, ⟨Nat.le_of_ble_eq_true rfl, Nat.le_of_ble_eq_true rfl⟩, ⟨Nat.le_of_ble_eq_true rfl, Nat.le_of_ble_eq_true rfl⟩⟩ d_La_law_996 (fun x1 G2 H locs hw hI => ?_)
  obtain ⟨h_x1, hw⟩ := hw
  subst h_x1
  rw [hw] at hI
  refine lv_istore (lv' := [(5, .int 1), (4, .int 0), (3, .ref ou), (2, .ref mo), (1, .ref o), (0, .ref b)]) hx hb d_La_law_999 hl (by decide) rfl (fun ls hl => ?_)
  refine lv_aload_n hx hb d_La_law_1001 rfl (lv_at hl 3 rfl) ?_
  refine lv_aload_n hx hb d_La_law_1002 rfl (lv_at hl 5 rfl) ?_
  refine lv_iload hx hb d_La_law_1003 (lv_at hl 1 rfl) ?_
  refine lv_iconst (v := 1) hx hb d_La_law_1005 (by decide) ?_
  refine lv_iadd hx hb d_La_law_1006 ?_
  refine va_sld hx hb hX hbl hbA hI.2 ix9.2.1 d_La_law_1007 ?_
  refine lv_aload_n hx hb d_La_law_1008 rfl (lv_at hl 5 rfl) ?_
  refine lv_iload hx hb d_La_law_1009 (lv_at hl 1 rfl) ?_
  refine lv_iconst (v := 2) hx hb d_La_law_1011 (by decide) ?_
  refine lv_iadd hx hb d_La_law_1012 ?_
  refine va_sld hx hb hX hbl hbA hI.2 ix9.2.2.1 d_La_law_1013 ?_
  refine gw_Vl (As := [.int (xs ((0 : Int32) + (1 : Int32)).toNatClampNeg), .int (xs ((0 : Int32) + (2 : Int32)).toNatClampNeg)]) (rest := []) M hK hI (c_Mo_told l (xs ((0 : Int32) + (1 : Int32)).toNatClampNeg) (xs ((0 : Int32) + (2 : Int32)).toNatClampNeg) mo q 0 0 0 0 hMo hA) k_Mo_told m_La_132 hMo (ci := 6) rfl (fun x hx => ⟨_, hx⟩) rfl hl.1 rfl (Nat.le_of_ble_eq_true rfl) ⟨rfl, rfl, ⟨Nat.le_of_ble_eq_true rfl, Nat.le_of_ble_eq_true rfl⟩, ⟨Nat.le_of_ble_eq_true rfl, Nat.le_of_ble_eq_true rfl⟩⟩ d_La_law_1014 (fun x3 G4 H locs hw hI => ?_)
  have hA := hA.fr hMo (show gw_fr (fun b => b = mo) G G4 from by rw [hw]; exact gw_fr.up rfl)
  have hM5 : G4 mo = some (kx (mo_ob q 1 0 0 0)) := by rw [hw]; exact gw_up_s
  have hn6 : ou ≠ mo := (ne_x hMo hU (fun q => by cases q)).symm
  have hU7 : G4 ou = some (kx (.inl (D.2 3, 1, .inr (.inl (fun _ => 0))))) := by rw [hw, gw_up_n hn6]; exact hU
  refine lv_lstore (lv' := [(6, .long x3), (5, .int 1), (4, .int 0), (3, .ref ou), (2, .ref mo), (1, .ref o), (0, .ref b)]) hx hb d_La_law_1017 hl (by decide) rfl (fun ls hl => ?_)
  refine lv_aload_n hx hb d_La_law_1019 rfl (lv_at hl 4 rfl) ?_
  refine gw_Vi (As := []) (rest := []) M hK hI (c_Mo_thrown l mo q 1 0 0 0 hM5 hA) k_Mo_thrown m_La_67 hM5 (ci := 6) rfl (fun x hx => ⟨_, hx⟩) rfl hl.1 rfl (Nat.le_of_ble_eq_true rfl) ⟨rfl, rfl, ⟨Nat.le_of_ble_eq_true rfl, Nat.le_of_ble_eq_true rfl⟩, ⟨Nat.le_of_ble_eq_true rfl, Nat.le_of_ble_eq_true rfl⟩⟩ d_La_law_1020 (fun x8 G9 H locs hw hI => ?_)
  obtain ⟨h_x8, hw9⟩ := hw
  rw [hw9] at hI
  subst h_x8
  refine lv_iload hx hb d_La_law_1023 (lv_at hl 1 rfl) ?_
  refine lv_icmp_eq (tgt := 1030) hx hb d_La_law_1025 (by decide) (fun c_1025 => ?_) (fun q9 => absurd (by decide) q9)
  refine lv_iload hx hb d_La_law_1030 (lv_at hl 1 rfl) ?_
  refine lv_if_ne (tgt := 1046) hx hb d_La_law_1032 (by decide) (fun c_1032 => ?_) (fun q9 => absurd q9 (by decide))
  refine lv_goto (tgt := 1141) hx hb d_La_law_1046 (by decide) ?_
  refine W.widen (k := 400) (n := 80000) (Nat.le_of_ble_eq_true rfl) (Nat.le_of_ble_eq_true rfl) ?_
  exact law_tail C0 htr hK hI ls (lv_sub hl [2, 6] rfl)

set_option maxHeartbeats 1000000 in
set_option maxRecDepth 100000 in
theorem law_17 {p : Program} {l : Launch} {e : Env} {s : State} {m : MethodId} {below : List Frame} {meth : Method} {c : Code} {b : Nat} {xs : Nat → Int32} (C0 : lw_At p s m meth c b 9 xs) (htr : l.stackTraces = false) {D : gw_D} (hK : gw_K D s.heap s) {G : gw_G} {H : Heap} {locs : List Loc} {o mo ou : Nat} {q : Nat → Nat} (hGp : gp_new D o G) (hMo : G mo = some (kx (mo_ob q 0 0 0 0))) (hA : mo_ok D tZ q G) (hU : G ou = some (kx (.inl (D.2 3, 1, .inr (.inl (fun _ => 0)))))) (hI : gw_I D s.heap G s.heap H locs) (ls : Array Slot) (hl : lv_has ls 8 [(4, .int 0), (3, .ref ou), (2, .ref mo), (1, .ref o), (0, .ref b)]) : W p l e room_1 s m #[Value.ref b] below meth c H locs 300 70000 (lw_Z below #[Value.ref b] s) (F0 m 1049 ls []) := by
  obtain ⟨hx, hb, hr, hml, hown, hts, hX, hbl, hlocks, hgv⟩ := id C0
  have M : CallFix p m c b_La_law 8 s #[Value.ref b] tb R_La := ⟨hx, hb, hml, hown, fun w h => hts w (tb_in h)⟩
  have hbA : ¬ gw_A s.heap b := Nat.not_le.mpr hbl
  obtain ⟨arr, fed, sent, places, plain, gained, check, as, ro, hO, hArr, hL, ⟨fq, hF, hbF⟩, ⟨sq, hS, hbS⟩, ⟨gq, hN, hbN⟩, hAs, hRo, hRs⟩ := hGp
  refine lv_aload_n hx hb d_La_law_1049 rfl (lv_at hl 3 rfl) ?_
  refine lv_aload_n hx hb d_La_law_1050 rfl (lv_at hl 4 rfl) ?_
  refine lv_iload hx hb d_La_law_1051 (lv_at hl 0 rfl) ?_
  refine lv_iconst (v := 1) hx hb d_La_law_1053 (by decide) ?_
  refine lv_iadd hx hb d_La_law_1054 ?_
  refine va_sld hx hb hX hbl hbA hI.2 ix9.2.1 d_La_law_1055 ?_
  refine lv_aload_n hx hb d_La_law_1056 rfl (lv_at hl 4 rfl) ?_
  refine lv_iload hx hb d_La_law_1057 (lv_at hl 0 rfl) ?_
  refine lv_iconst (v := 2) hx hb d_La_law_1059 (by decide) ?_
  refine lv_iadd hx hb d_La_law_1060 ?_
  refine va_sld hx hb hX hbl hbA hI.2 ix9.2.2.1 d_La_law_1061 ?_
  refine lv_aload_n hx hb d_La_law_1062 rfl (lv_at hl 1 rfl) ?_
  refine gw_Wi (As := [.ref o, .int (xs ((0 : Int32) + (1 : Int32)).toNatClampNeg), .int (xs ((0 : Int32) + (2 : Int32)).toNatClampNeg), .ref ou]) (rest := []) M hK hI (c_La_givent l htr (xs ((0 : Int32) + (1 : Int32)).toNatClampNeg) (xs ((0 : Int32) + (2 : Int32)).toNatClampNeg) ou o arr fed sent places plain gained check hO) k_La_given m_La_133 rfl hl.1 rfl (Nat.le_of_ble_eq_true rfl) ⟨rfl, rfl, ⟨Nat.le_of_ble_eq_true rfl, Nat.le_of_ble_eq_true rfl⟩, ⟨Nat.le_of_ble_eq_true rfl, Nat.le_of_ble_eq_true rfl⟩⟩ d_La_law_1063 (fun x1 G2 H locs hw hI => ?_)
  obtain ⟨h_x1, hw⟩ := hw
  subst h_x1
  rw [hw] at hI
  refine lv_istore (lv' := [(5, .int 1), (4, .int 0), (3, .ref ou), (2, .ref mo), (1, .ref o), (0, .ref b)]) hx hb d_La_law_1066 hl (by decide) rfl (fun ls hl => ?_)
  refine lv_aload_n hx hb d_La_law_1068 rfl (lv_at hl 3 rfl) ?_
  refine lv_aload_n hx hb d_La_law_1069 rfl (lv_at hl 5 rfl) ?_
  refine lv_iload hx hb d_La_law_1070 (lv_at hl 1 rfl) ?_
  refine lv_iconst (v := 1) hx hb d_La_law_1072 (by decide) ?_
  refine lv_iadd hx hb d_La_law_1073 ?_
  refine va_sld hx hb hX hbl hbA hI.2 ix9.2.1 d_La_law_1074 ?_
  refine lv_aload_n hx hb d_La_law_1075 rfl (lv_at hl 5 rfl) ?_
  refine lv_iload hx hb d_La_law_1076 (lv_at hl 1 rfl) ?_
  refine lv_iconst (v := 2) hx hb d_La_law_1078 (by decide) ?_
  refine lv_iadd hx hb d_La_law_1079 ?_
  refine va_sld hx hb hX hbl hbA hI.2 ix9.2.2.1 d_La_law_1080 ?_
  refine gw_Vl (As := [.int (xs ((0 : Int32) + (1 : Int32)).toNatClampNeg), .int (xs ((0 : Int32) + (2 : Int32)).toNatClampNeg)]) (rest := []) M hK hI (c_Mo_given l (xs ((0 : Int32) + (1 : Int32)).toNatClampNeg) (xs ((0 : Int32) + (2 : Int32)).toNatClampNeg) mo q 0 0 0 0 hMo hA) k_Mo_given m_La_135 hMo (ci := 6) rfl (fun x hx => ⟨_, hx⟩) rfl hl.1 rfl (Nat.le_of_ble_eq_true rfl) ⟨rfl, rfl, ⟨Nat.le_of_ble_eq_true rfl, Nat.le_of_ble_eq_true rfl⟩, ⟨Nat.le_of_ble_eq_true rfl, Nat.le_of_ble_eq_true rfl⟩⟩ d_La_law_1081 (fun x3 G4 H locs hw hI => ?_)
  have hA := hA.fr hMo (show gw_fr (fun b => b = mo) G G4 from by rw [hw]; exact gw_fr.up rfl)
  have hM5 : G4 mo = some (kx (mo_ob q 1 0 0 0)) := by rw [hw]; exact gw_up_s
  have hn6 : ou ≠ mo := (ne_x hMo hU (fun q => by cases q)).symm
  have hU7 : G4 ou = some (kx (.inl (D.2 3, 1, .inr (.inl (fun _ => 0))))) := by rw [hw, gw_up_n hn6]; exact hU
  refine lv_lstore (lv' := [(6, .long x3), (5, .int 1), (4, .int 0), (3, .ref ou), (2, .ref mo), (1, .ref o), (0, .ref b)]) hx hb d_La_law_1084 hl (by decide) rfl (fun ls hl => ?_)
  refine lv_aload_n hx hb d_La_law_1086 rfl (lv_at hl 4 rfl) ?_
  refine gw_Vi (As := []) (rest := []) M hK hI (c_Mo_thrown l mo q 1 0 0 0 hM5 hA) k_Mo_thrown m_La_67 hM5 (ci := 6) rfl (fun x hx => ⟨_, hx⟩) rfl hl.1 rfl (Nat.le_of_ble_eq_true rfl) ⟨rfl, rfl, ⟨Nat.le_of_ble_eq_true rfl, Nat.le_of_ble_eq_true rfl⟩, ⟨Nat.le_of_ble_eq_true rfl, Nat.le_of_ble_eq_true rfl⟩⟩ d_La_law_1087 (fun x8 G9 H locs hw hI => ?_)
  obtain ⟨h_x8, hw9⟩ := hw
  rw [hw9] at hI
  subst h_x8
  refine lv_iload hx hb d_La_law_1090 (lv_at hl 1 rfl) ?_
  refine lv_icmp_eq (tgt := 1097) hx hb d_La_law_1092 (by decide) (fun c_1092 => ?_) (fun q9 => absurd (by decide) q9)
  refine lv_iload hx hb d_La_law_1097 (lv_at hl 1 rfl) ?_
  refine lv_if_ne (tgt := 1113) hx hb d_La_law_1099 (by decide) (fun c_1099 => ?_) (fun q9 => absurd q9 (by decide))
  refine lv_goto (tgt := 1141) hx hb d_La_law_1113 (by decide) ?_
  refine W.widen (k := 400) (n := 80000) (Nat.le_of_ble_eq_true rfl) (Nat.le_of_ble_eq_true rfl) ?_
  exact law_tail C0 htr hK hI ls (lv_sub hl [2, 6] rfl)

set_option maxHeartbeats 1000000 in
set_option maxRecDepth 100000 in
theorem law_10 {p : Program} {l : Launch} {e : Env} {s : State} {m : MethodId} {below : List Frame} {meth : Method} {c : Code} {b : Nat} {xs : Nat → Int32} (C0 : lw_At p s m meth c b 9 xs) (htr : l.stackTraces = false) {D : gw_D} (hK : gw_K D s.heap s) {G : gw_G} {H : Heap} {locs : List Loc} {o mo ou : Nat} {q : Nat → Nat} (hGp : gp_new D o G) (hMo : G mo = some (kx (mo_ob q 0 0 0 0))) (hA : mo_ok D tZ q G) (hU : G ou = some (kx (.inl (D.2 3, 1, .inr (.inl (fun _ => 0)))))) (hI : gw_I D s.heap G s.heap H locs) (ls : Array Slot) (hl : lv_has ls 8 [(4, .int 0), (3, .ref ou), (2, .ref mo), (1, .ref o), (0, .ref b)]) : W p l e room_1 s m #[Value.ref b] below meth c H locs 300 70000 (lw_Z below #[Value.ref b] s) (F0 m 802 ls []) := by
  obtain ⟨hx, hb, hr, hml, hown, hts, hX, hbl, hlocks, hgv⟩ := id C0
  have M : CallFix p m c b_La_law 8 s #[Value.ref b] tb R_La := ⟨hx, hb, hml, hown, fun w h => hts w (tb_in h)⟩
  have hbA : ¬ gw_A s.heap b := Nat.not_le.mpr hbl
  obtain ⟨arr, fed, sent, places, plain, gained, check, as, ro, hO, hArr, hL, ⟨fq, hF, hbF⟩, ⟨sq, hS, hbS⟩, ⟨gq, hN, hbN⟩, hAs, hRo, hRs⟩ := hGp
  refine lv_aload_n hx hb d_La_law_802 rfl (lv_at hl 3 rfl) ?_
  refine lv_aload_n hx hb d_La_law_803 rfl (lv_at hl 4 rfl) ?_
  refine lv_iload hx hb d_La_law_804 (lv_at hl 0 rfl) ?_
  refine lv_iconst (v := 1) hx hb d_La_law_806 (by decide) ?_
  refine lv_iadd hx hb d_La_law_807 ?_
  refine va_sld hx hb hX hbl hbA hI.2 ix9.2.1 d_La_law_808 ?_
  by_cases hbad : ¬ (xs ((0 : Int32) + (1 : Int32)).toNatClampNeg) = 0
  · refine gw_Wi (As := [.ref o, .int (xs ((0 : Int32) + (1 : Int32)).toNatClampNeg)]) (rest := []) M hK hI (c_La_cutt l htr (xs ((0 : Int32) + (1 : Int32)).toNatClampNeg) hbad o arr fed sent places plain gained check hO sq hS hbS) k_La_cut m_La_107 rfl hl.1 rfl (Nat.le_of_ble_eq_true rfl) ⟨rfl, rfl, ⟨Nat.le_of_ble_eq_true rfl, Nat.le_of_ble_eq_true rfl⟩, ⟨Nat.le_of_ble_eq_true rfl, Nat.le_of_ble_eq_true rfl⟩⟩ d_La_law_809 (fun x1 G2 H locs hw hI => ?_)
    obtain ⟨h_x1, hw⟩ := hw
    subst h_x1
    rw [hw] at hI
    refine lv_istore (lv' := [(5, .int 1), (4, .int 0), (3, .ref ou), (2, .ref mo), (1, .ref o), (0, .ref b)]) hx hb d_La_law_812 hl (by decide) rfl (fun ls hl => ?_)
    refine lv_aload_n hx hb d_La_law_814 rfl (lv_at hl 3 rfl) ?_
    refine lv_aload_n hx hb d_La_law_815 rfl (lv_at hl 5 rfl) ?_
    refine lv_iload hx hb d_La_law_816 (lv_at hl 1 rfl) ?_
    refine lv_iconst (v := 1) hx hb d_La_law_818 (by decide) ?_
    refine lv_iadd hx hb d_La_law_819 ?_
    refine va_sld hx hb hX hbl hbA hI.2 ix9.2.1 d_La_law_820 ?_
    refine gw_Vv (As := [.int (xs ((0 : Int32) + (1 : Int32)).toNatClampNeg)]) (rest := []) M hK hI (c_Mo_cut l (xs ((0 : Int32) + (1 : Int32)).toNatClampNeg) mo q 0 0 0 hMo hA) k_Mo_cut m_La_110 hMo (ci := 6) rfl (fun x hx => ⟨_, hx⟩) rfl hl.1 rfl (Nat.le_of_ble_eq_true rfl) ⟨rfl, rfl, ⟨Nat.le_of_ble_eq_true rfl, Nat.le_of_ble_eq_true rfl⟩, ⟨Nat.le_of_ble_eq_true rfl, Nat.le_of_ble_eq_true rfl⟩⟩ d_La_law_821 (fun G4 H locs hw hI => ?_)
    have hw := (hw.resolve_left (fun h9 => hbad h9.1)).2
    have hA := hA.fr hMo (show gw_fr (fun b => b = mo) G G4 from by rw [hw]; exact gw_fr.up rfl)
    have hM5 : G4 mo = some (kx (mo_ob q 1 0 0 0)) := by rw [hw]; exact gw_up_s
    have hn6 : ou ≠ mo := (ne_x hMo hU (fun q => by cases q)).symm
    have hU7 : G4 ou = some (kx (.inl (D.2 3, 1, .inr (.inl (fun _ => 0))))) := by rw [hw, gw_up_n hn6]; exact hU
    refine lv_aload_n hx hb d_La_law_824 rfl (lv_at hl 3 rfl) ?_
    refine gw_Vi (As := []) (rest := []) M hK hI (c_Mo_thrown l mo q 1 0 0 0 hM5 hA) k_Mo_thrown m_La_67 hM5 (ci := 6) rfl (fun x hx => ⟨_, hx⟩) rfl hl.1 rfl (Nat.le_of_ble_eq_true rfl) ⟨rfl, rfl, ⟨Nat.le_of_ble_eq_true rfl, Nat.le_of_ble_eq_true rfl⟩, ⟨Nat.le_of_ble_eq_true rfl, Nat.le_of_ble_eq_true rfl⟩⟩ d_La_law_825 (fun x8 G9 H locs hw hI => ?_)
    obtain ⟨h_x8, hw9⟩ := hw
    rw [hw9] at hI
    subst h_x8
    refine lv_iload hx hb d_La_law_828 (lv_at hl 0 rfl) ?_
    refine lv_icmp_eq (tgt := 835) hx hb d_La_law_830 (by decide) (fun c_830 => ?_) (fun q9 => absurd (by decide) q9)
    refine lv_goto (tgt := 1141) hx hb d_La_law_835 (by decide) ?_
    refine W.widen (k := 400) (n := 80000) (Nat.le_of_ble_eq_true rfl) (Nat.le_of_ble_eq_true rfl) ?_
    exact law_tail C0 htr hK hI ls (lv_sub hl [1, 5] rfl)
  · have h10 := Classical.not_not.mp hbad
    rw [h10]
    refine gw_Wi (As := [.ref o, .int 0]) (rest := []) M hK hI (c_La_cutr l htr o arr fed sent places plain gained check hO sq hS hbS) k_La_cut m_La_107 rfl hl.1 rfl (Nat.le_of_ble_eq_true rfl) ⟨rfl, rfl, ⟨Nat.le_of_ble_eq_true rfl, Nat.le_of_ble_eq_true rfl⟩, ⟨Nat.le_of_ble_eq_true rfl, Nat.le_of_ble_eq_true rfl⟩⟩ d_La_law_809 (fun x9 G10 H locs hw hI => ?_)
    obtain ⟨h_x9, hw⟩ := hw
    subst h_x9
    rw [hw] at hI
    refine lv_istore (lv' := [(5, .int 0), (4, .int 0), (3, .ref ou), (2, .ref mo), (1, .ref o), (0, .ref b)]) hx hb d_La_law_812 hl (by decide) rfl (fun ls hl => ?_)
    refine lv_aload_n hx hb d_La_law_814 rfl (lv_at hl 3 rfl) ?_
    refine lv_aload_n hx hb d_La_law_815 rfl (lv_at hl 5 rfl) ?_
    refine lv_iload hx hb d_La_law_816 (lv_at hl 1 rfl) ?_
    refine lv_iconst (v := 1) hx hb d_La_law_818 (by decide) ?_
    refine lv_iadd hx hb d_La_law_819 ?_
    refine va_sld hx hb hX hbl hbA hI.2 ix9.2.1 d_La_law_820 ?_
    refine gw_Vv (As := [.int (xs ((0 : Int32) + (1 : Int32)).toNatClampNeg)]) (rest := []) M hK hI (c_Mo_cut l (xs ((0 : Int32) + (1 : Int32)).toNatClampNeg) mo q 0 0 0 hMo hA) k_Mo_cut m_La_110 hMo (ci := 6) rfl (fun x hx => ⟨_, hx⟩) rfl hl.1 rfl (Nat.le_of_ble_eq_true rfl) ⟨rfl, rfl, ⟨Nat.le_of_ble_eq_true rfl, Nat.le_of_ble_eq_true rfl⟩, ⟨Nat.le_of_ble_eq_true rfl, Nat.le_of_ble_eq_true rfl⟩⟩ d_La_law_821 (fun G12 H locs hw hI => ?_)
    have hw := (hw.resolve_right (fun h9 => h9.1 h10)).2
    have hA := hA.fr hMo (show gw_fr (fun b => b = mo) G G12 from by rw [hw]; exact gw_fr.up rfl)
    have hM13 : G12 mo = some (kx (mo_ob q 0 0 0 0)) := by rw [hw]; exact gw_up_s
    have hn14 : ou ≠ mo := (ne_x hMo hU (fun q => by cases q)).symm
    have hU15 : G12 ou = some (kx (.inl (D.2 3, 1, .inr (.inl (fun _ => 0))))) := by rw [hw, gw_up_n hn14]; exact hU
    refine lv_aload_n hx hb d_La_law_824 rfl (lv_at hl 3 rfl) ?_
    refine gw_Vi (As := []) (rest := []) M hK hI (c_Mo_thrown l mo q 0 0 0 0 hM13 hA) k_Mo_thrown m_La_67 hM13 (ci := 6) rfl (fun x hx => ⟨_, hx⟩) rfl hl.1 rfl (Nat.le_of_ble_eq_true rfl) ⟨rfl, rfl, ⟨Nat.le_of_ble_eq_true rfl, Nat.le_of_ble_eq_true rfl⟩, ⟨Nat.le_of_ble_eq_true rfl, Nat.le_of_ble_eq_true rfl⟩⟩ d_La_law_825 (fun x16 G9 H locs hw hI => ?_)
    obtain ⟨h_x16, hw9⟩ := hw
    rw [hw9] at hI
    subst h_x16
    refine lv_iload hx hb d_La_law_828 (lv_at hl 0 rfl) ?_
    refine lv_icmp_eq (tgt := 835) hx hb d_La_law_830 (by decide) (fun c_830 => ?_) (fun q9 => absurd (by decide) q9)
    refine lv_goto (tgt := 1141) hx hb d_La_law_835 (by decide) ?_
    refine W.widen (k := 400) (n := 80000) (Nat.le_of_ble_eq_true rfl) (Nat.le_of_ble_eq_true rfl) ?_
    exact law_tail C0 htr hK hI ls (lv_sub hl [1, 5] rfl)

abbrev rm_Mo_thrown2 : Room := { frames := 0, cells := 0, slots := 0, locals := 0 }
set_option maxHeartbeats 1000000 in
set_option maxRecDepth 100000 in
theorem c_Mo_thrown2 (l : Launch) {D : gw_D} {Hs : Heap} {G : gw_G} (o : Nat) (q : Nat → Nat) (t0 f0 l0 g0 : Int32) (hO : G o = some (kx (mo_ob q t0 f0 l0 g0))) : Met l y_Mo_thrown (Cond.code y_Mo_thrown b_Mo_thrown 1 (some .int) :: tb) rm_Mo_thrown2 (gw_Pc D Hs G [.ref o]) (gw_Qi D Hs (fun r G1 => r = t0 ∧ G1 = G)) 0 0 (gw_A Hs) := by
  refine gw_met (by decide) (Nat.le_of_ble_eq_true rfl) ?_
  intro p e s m args below meth c M hK hr hlo hin hI ls hl
  have hx := M.1
  have hb := M.2.1
  have hl : lv_has ls 1 [(0, .ref o)] := hl
  refine lv_aload_n hx hb d_Mo_thrown_0 rfl (lv_at hl 0 rfl) ?_
  refine gw_get M hK hI hO i_Mo rfl 0 (by decide) f_Mo_94 rfl (Pv := fun v => v = .int t0) (fun x hx => ⟨_, _, hx, rfl, rfl⟩) d_Mo_thrown_1 (fun v hv => ?_)
  subst hv
  exact gw_iret M hr hlo hI d_Mo_thrown_4 (⟨rfl, rfl⟩)

set_option maxHeartbeats 1000000 in
set_option maxRecDepth 100000 in
theorem law_11 {p : Program} {l : Launch} {e : Env} {s : State} {m : MethodId} {below : List Frame} {meth : Method} {c : Code} {b : Nat} {xs : Nat → Int32} (C0 : lw_At p s m meth c b 9 xs) (htr : l.stackTraces = false) {D : gw_D} (hK : gw_K D s.heap s) {G : gw_G} {H : Heap} {locs : List Loc} {o mo ou : Nat} {q : Nat → Nat} (hGp : gp_new D o G) (hMo : G mo = some (kx (mo_ob q 0 0 0 0))) (hA : mo_ok D tZ q G) (hU : G ou = some (kx (.inl (D.2 3, 1, .inr (.inl (fun _ => 0)))))) (hI : gw_I D s.heap G s.heap H locs) (ls : Array Slot) (hl : lv_has ls 8 [(4, .int 0), (3, .ref ou), (2, .ref mo), (1, .ref o), (0, .ref b)]) : W p l e room_1 s m #[Value.ref b] below meth c H locs 300 70000 (lw_Z below #[Value.ref b] s) (F0 m 838 ls []) := by
  obtain ⟨hx, hb, hr, hml, hown, hts, hX, hbl, hlocks, hgv⟩ := id C0
  have M : CallFix p m c b_La_law 8 s #[Value.ref b] tb R_La := ⟨hx, hb, hml, hown, fun w h => hts w (tb_in h)⟩
  have hbA : ¬ gw_A s.heap b := Nat.not_le.mpr hbl
  obtain ⟨arr, fed, sent, places, plain, gained, check, as, ro, hO, hArr, hL, ⟨fq, hF, hbF⟩, ⟨sq, hS, hbS⟩, ⟨gq, hN, hbN⟩, hAs, hRo, hRs⟩ := hGp
  refine lv_aload_n hx hb d_La_law_838 rfl (lv_at hl 3 rfl) ?_
  refine lv_aload_n hx hb d_La_law_839 rfl (lv_at hl 4 rfl) ?_
  refine lv_iload hx hb d_La_law_840 (lv_at hl 0 rfl) ?_
  refine lv_iconst (v := 1) hx hb d_La_law_842 (by decide) ?_
  refine lv_iadd hx hb d_La_law_843 ?_
  refine va_sld hx hb hX hbl hbA hI.2 ix9.2.1 d_La_law_844 ?_
  by_cases hbad : (xs ((0 : Int32) + (1 : Int32)).toNatClampNeg) < 0 ∨ 8 ≤ (xs ((0 : Int32) + (1 : Int32)).toNatClampNeg)
  · refine gw_Wi (As := [.ref o, .int (xs ((0 : Int32) + (1 : Int32)).toNatClampNeg)]) (rest := []) M hK hI (c_La_keept l htr (xs ((0 : Int32) + (1 : Int32)).toNatClampNeg) hbad o arr fed sent places plain gained check hO) k_La_keep m_La_111 rfl hl.1 rfl (Nat.le_of_ble_eq_true rfl) ⟨rfl, rfl, ⟨Nat.le_of_ble_eq_true rfl, Nat.le_of_ble_eq_true rfl⟩, ⟨Nat.le_of_ble_eq_true rfl, Nat.le_of_ble_eq_true rfl⟩⟩ d_La_law_845 (fun x1 G2 H locs hw hI => ?_)
    obtain ⟨h_x1, hw⟩ := hw
    subst h_x1
    rw [hw] at hI
    refine lv_istore (lv' := [(5, .int 1), (4, .int 0), (3, .ref ou), (2, .ref mo), (1, .ref o), (0, .ref b)]) hx hb d_La_law_848 hl (by decide) rfl (fun ls hl => ?_)
    refine lv_aload_n hx hb d_La_law_850 rfl (lv_at hl 3 rfl) ?_
    refine lv_aload_n hx hb d_La_law_851 rfl (lv_at hl 5 rfl) ?_
    refine lv_iload hx hb d_La_law_852 (lv_at hl 1 rfl) ?_
    refine lv_iconst (v := 1) hx hb d_La_law_854 (by decide) ?_
    refine lv_iadd hx hb d_La_law_855 ?_
    refine va_sld hx hb hX hbl hbA hI.2 ix9.2.1 d_La_law_856 ?_
    refine gw_Vv (As := [.int (xs ((0 : Int32) + (1 : Int32)).toNatClampNeg)]) (rest := []) M hK hI (c_Mo_keep l (xs ((0 : Int32) + (1 : Int32)).toNatClampNeg) mo q 0 0 0 hMo hA) k_Mo_keep m_La_113 hMo (ci := 6) rfl (fun x hx => ⟨_, hx⟩) rfl hl.1 rfl (Nat.le_of_ble_eq_true rfl) ⟨rfl, rfl, ⟨Nat.le_of_ble_eq_true rfl, Nat.le_of_ble_eq_true rfl⟩, ⟨Nat.le_of_ble_eq_true rfl, Nat.le_of_ble_eq_true rfl⟩⟩ d_La_law_857 (fun G3 H locs hw hI => ?_)
    have hM4 := (hw.resolve_left (fun h9 => hbad.elim h9.1.1 (fun h8 => ge8 h8 h9.1.2))).2
    refine lv_aload_n hx hb d_La_law_860 rfl (lv_at hl 3 rfl) ?_
    refine gw_Vi (As := []) (rest := []) M hK hI (c_Mo_thrown2 l mo q 1 0 0 0 hM4) k_Mo_thrown m_La_67 hM4 (ci := 6) rfl (fun x hx => ⟨_, hx⟩) rfl hl.1 rfl (Nat.le_of_ble_eq_true rfl) ⟨rfl, rfl, ⟨Nat.le_of_ble_eq_true rfl, Nat.le_of_ble_eq_true rfl⟩, ⟨Nat.le_of_ble_eq_true rfl, Nat.le_of_ble_eq_true rfl⟩⟩ d_La_law_861 (fun x5 G9 H locs hw hI => ?_)
    obtain ⟨h_x5, hw9⟩ := hw
    rw [hw9] at hI
    subst h_x5
    refine lv_iload hx hb d_La_law_864 (lv_at hl 0 rfl) ?_
    refine lv_icmp_eq (tgt := 871) hx hb d_La_law_866 (by decide) (fun c_866 => ?_) (fun q9 => absurd (by decide) q9)
    refine lv_goto (tgt := 1141) hx hb d_La_law_871 (by decide) ?_
    refine W.widen (k := 400) (n := 80000) (Nat.le_of_ble_eq_true rfl) (Nat.le_of_ble_eq_true rfl) ?_
    exact law_tail C0 htr hK hI ls (lv_sub hl [1, 5] rfl)
  · have hok : ¬ (xs ((0 : Int32) + (1 : Int32)).toNatClampNeg) < 0 ∧ ¬ 8 ≤ (xs ((0 : Int32) + (1 : Int32)).toNatClampNeg) := ⟨fun h => hbad (Or.inl h), fun h => hbad (Or.inr h)⟩
    refine gw_Wi (As := [.ref o, .int (xs ((0 : Int32) + (1 : Int32)).toNatClampNeg)]) (rest := []) M hK hI (c_La_keepr l htr (xs ((0 : Int32) + (1 : Int32)).toNatClampNeg) o arr fed sent places plain gained check hO sq hS hbS ro hok hL hRo hRs) k_La_keep m_La_111 rfl hl.1 rfl (Nat.le_of_ble_eq_true rfl) ⟨rfl, rfl, ⟨Nat.le_of_ble_eq_true rfl, Nat.le_of_ble_eq_true rfl⟩, ⟨Nat.le_of_ble_eq_true rfl, Nat.le_of_ble_eq_true rfl⟩⟩ d_La_law_845 (fun x6 G7 H locs hw hI => ?_)
    obtain ⟨h_x6, hw⟩ := hw
    subst h_x6
    rw [hw] at hI
    refine lv_istore (lv' := [(5, .int 0), (4, .int 0), (3, .ref ou), (2, .ref mo), (1, .ref o), (0, .ref b)]) hx hb d_La_law_848 hl (by decide) rfl (fun ls hl => ?_)
    refine lv_aload_n hx hb d_La_law_850 rfl (lv_at hl 3 rfl) ?_
    refine lv_aload_n hx hb d_La_law_851 rfl (lv_at hl 5 rfl) ?_
    refine lv_iload hx hb d_La_law_852 (lv_at hl 1 rfl) ?_
    refine lv_iconst (v := 1) hx hb d_La_law_854 (by decide) ?_
    refine lv_iadd hx hb d_La_law_855 ?_
    refine va_sld hx hb hX hbl hbA hI.2 ix9.2.1 d_La_law_856 ?_
    refine gw_Vv (As := [.int (xs ((0 : Int32) + (1 : Int32)).toNatClampNeg)]) (rest := []) M hK hI (c_Mo_keep l (xs ((0 : Int32) + (1 : Int32)).toNatClampNeg) mo q 0 0 0 hMo hA) k_Mo_keep m_La_113 hMo (ci := 6) rfl (fun x hx => ⟨_, hx⟩) rfl hl.1 rfl (Nat.le_of_ble_eq_true rfl) ⟨rfl, rfl, ⟨Nat.le_of_ble_eq_true rfl, Nat.le_of_ble_eq_true rfl⟩, ⟨Nat.le_of_ble_eq_true rfl, Nat.le_of_ble_eq_true rfl⟩⟩ d_La_law_857 (fun G8 H locs hw hI => ?_)
    have hM9 := (hw.resolve_right (fun h9 => h9.1.elim hok.1 (fun h8 => h8 (lt8 hok.2)))).2
    refine lv_aload_n hx hb d_La_law_860 rfl (lv_at hl 3 rfl) ?_
    refine gw_Vi (As := []) (rest := []) M hK hI (c_Mo_thrown2 l mo q 0 0 0 0 hM9) k_Mo_thrown m_La_67 hM9 (ci := 6) rfl (fun x hx => ⟨_, hx⟩) rfl hl.1 rfl (Nat.le_of_ble_eq_true rfl) ⟨rfl, rfl, ⟨Nat.le_of_ble_eq_true rfl, Nat.le_of_ble_eq_true rfl⟩, ⟨Nat.le_of_ble_eq_true rfl, Nat.le_of_ble_eq_true rfl⟩⟩ d_La_law_861 (fun x10 G9 H locs hw hI => ?_)
    obtain ⟨h_x10, hw9⟩ := hw
    rw [hw9] at hI
    subst h_x10
    refine lv_iload hx hb d_La_law_864 (lv_at hl 0 rfl) ?_
    refine lv_icmp_eq (tgt := 871) hx hb d_La_law_866 (by decide) (fun c_866 => ?_) (fun q9 => absurd (by decide) q9)
    refine lv_goto (tgt := 1141) hx hb d_La_law_871 (by decide) ?_
    refine W.widen (k := 400) (n := 80000) (Nat.le_of_ble_eq_true rfl) (Nat.le_of_ble_eq_true rfl) ?_
    exact law_tail C0 htr hK hI ls (lv_sub hl [1, 5] rfl)

set_option maxHeartbeats 1000000 in
set_option maxRecDepth 100000 in
theorem law_12 {p : Program} {l : Launch} {e : Env} {s : State} {m : MethodId} {below : List Frame} {meth : Method} {c : Code} {b : Nat} {xs : Nat → Int32} (C0 : lw_At p s m meth c b 9 xs) (htr : l.stackTraces = false) {D : gw_D} (hK : gw_K D s.heap s) {G : gw_G} {H : Heap} {locs : List Loc} {o mo ou : Nat} {q : Nat → Nat} (hGp : gp_new D o G) (hMo : G mo = some (kx (mo_ob q 0 0 0 0))) (hA : mo_ok D tZ q G) (hU : G ou = some (kx (.inl (D.2 3, 1, .inr (.inl (fun _ => 0)))))) (hI : gw_I D s.heap G s.heap H locs) (ls : Array Slot) (hl : lv_has ls 8 [(4, .int 0), (3, .ref ou), (2, .ref mo), (1, .ref o), (0, .ref b)]) : W p l e room_1 s m #[Value.ref b] below meth c H locs 300 70000 (lw_Z below #[Value.ref b] s) (F0 m 874 ls []) := by
  obtain ⟨hx, hb, hr, hml, hown, hts, hX, hbl, hlocks, hgv⟩ := id C0
  have M : CallFix p m c b_La_law 8 s #[Value.ref b] tb R_La := ⟨hx, hb, hml, hown, fun w h => hts w (tb_in h)⟩
  have hbA : ¬ gw_A s.heap b := Nat.not_le.mpr hbl
  obtain ⟨arr, fed, sent, places, plain, gained, check, as, ro, hO, hArr, hL, ⟨fq, hF, hbF⟩, ⟨sq, hS, hbS⟩, ⟨gq, hN, hbN⟩, hAs, hRo, hRs⟩ := hGp
  refine lv_aload_n hx hb d_La_law_874 rfl (lv_at hl 3 rfl) ?_
  refine lv_aload_n hx hb d_La_law_875 rfl (lv_at hl 4 rfl) ?_
  refine lv_iload hx hb d_La_law_876 (lv_at hl 0 rfl) ?_
  refine lv_iconst (v := 1) hx hb d_La_law_878 (by decide) ?_
  refine lv_iadd hx hb d_La_law_879 ?_
  refine va_sld hx hb hX hbl hbA hI.2 ix9.2.1 d_La_law_880 ?_
  refine lv_aload_n hx hb d_La_law_881 rfl (lv_at hl 1 rfl) ?_
  by_cases hbad : (xs ((0 : Int32) + (1 : Int32)).toNatClampNeg) < 0 ∨ 8 ≤ (xs ((0 : Int32) + (1 : Int32)).toNatClampNeg)
  · refine gw_Wi (As := [.ref o, .int (xs ((0 : Int32) + (1 : Int32)).toNatClampNeg), .ref ou]) (rest := []) M hK hI (c_La_bringt l htr (xs ((0 : Int32) + (1 : Int32)).toNatClampNeg) ou hbad o arr fed sent places plain gained check hO) k_La_bring m_La_114 rfl hl.1 rfl (Nat.le_of_ble_eq_true rfl) ⟨rfl, rfl, ⟨Nat.le_of_ble_eq_true rfl, Nat.le_of_ble_eq_true rfl⟩, ⟨Nat.le_of_ble_eq_true rfl, Nat.le_of_ble_eq_true rfl⟩⟩ d_La_law_882 (fun x1 G2 H locs hw hI => ?_)
    obtain ⟨h_x1, hw⟩ := hw
    subst h_x1
    rw [hw] at hI
    refine lv_istore (lv' := [(5, .int 1), (4, .int 0), (3, .ref ou), (2, .ref mo), (1, .ref o), (0, .ref b)]) hx hb d_La_law_885 hl (by decide) rfl (fun ls hl => ?_)
    refine lv_aload_n hx hb d_La_law_887 rfl (lv_at hl 3 rfl) ?_
    refine lv_aload_n hx hb d_La_law_888 rfl (lv_at hl 5 rfl) ?_
    refine lv_iload hx hb d_La_law_889 (lv_at hl 1 rfl) ?_
    refine lv_iconst (v := 1) hx hb d_La_law_891 (by decide) ?_
    refine lv_iadd hx hb d_La_law_892 ?_
    refine va_sld hx hb hX hbl hbA hI.2 ix9.2.1 d_La_law_893 ?_
    refine gw_Vi (As := [.int (xs ((0 : Int32) + (1 : Int32)).toNatClampNeg)]) (rest := []) M hK hI (c_Mo_bring l (xs ((0 : Int32) + (1 : Int32)).toNatClampNeg) mo q 0 0 0 0 hMo hA) k_Mo_bring m_La_117 hMo (ci := 6) rfl (fun x hx => ⟨_, hx⟩) rfl hl.1 rfl (Nat.le_of_ble_eq_true rfl) ⟨rfl, rfl, ⟨Nat.le_of_ble_eq_true rfl, Nat.le_of_ble_eq_true rfl⟩, ⟨Nat.le_of_ble_eq_true rfl, Nat.le_of_ble_eq_true rfl⟩⟩ d_La_law_894 (fun x3 G4 H locs hw hI => ?_)
    have hw := (hw.resolve_left (fun h9 => hbad.elim h9.1.1 (fun h8 => ge8 h8 h9.1.2))).2
    have hA := hA.fr hMo (show gw_fr (fun b => b = mo) G G4 from by rw [hw]; exact gw_fr.up rfl)
    have hM5 : G4 mo = some (kx (mo_ob q 1 0 0 0)) := by rw [hw]; exact gw_up_s
    have hn6 : ou ≠ mo := (ne_x hMo hU (fun q => by cases q)).symm
    have hU7 : G4 ou = some (kx (.inl (D.2 3, 1, .inr (.inl (fun _ => 0))))) := by rw [hw, gw_up_n hn6]; exact hU
    refine lv_istore (lv' := [(6, .int x3), (5, .int 1), (4, .int 0), (3, .ref ou), (2, .ref mo), (1, .ref o), (0, .ref b)]) hx hb d_La_law_897 hl (by decide) rfl (fun ls hl => ?_)
    refine lv_aload_n hx hb d_La_law_899 rfl (lv_at hl 4 rfl) ?_
    refine gw_Vi (As := []) (rest := []) M hK hI (c_Mo_thrown l mo q 1 0 0 0 hM5 hA) k_Mo_thrown m_La_67 hM5 (ci := 6) rfl (fun x hx => ⟨_, hx⟩) rfl hl.1 rfl (Nat.le_of_ble_eq_true rfl) ⟨rfl, rfl, ⟨Nat.le_of_ble_eq_true rfl, Nat.le_of_ble_eq_true rfl⟩, ⟨Nat.le_of_ble_eq_true rfl, Nat.le_of_ble_eq_true rfl⟩⟩ d_La_law_900 (fun x8 G9 H locs hw hI => ?_)
    obtain ⟨h_x8, hw9⟩ := hw
    rw [hw9] at hI
    subst h_x8
    refine lv_iload hx hb d_La_law_903 (lv_at hl 1 rfl) ?_
    refine lv_icmp_eq (tgt := 910) hx hb d_La_law_905 (by decide) (fun c_905 => ?_) (fun q9 => absurd (by decide) q9)
    refine lv_iload hx hb d_La_law_910 (lv_at hl 1 rfl) ?_
    refine lv_if_ne (tgt := 927) hx hb d_La_law_912 (by decide) (fun c_912 => ?_) (fun q9 => absurd q9 (by decide))
    refine lv_goto (tgt := 1141) hx hb d_La_law_927 (by decide) ?_
    refine W.widen (k := 400) (n := 80000) (Nat.le_of_ble_eq_true rfl) (Nat.le_of_ble_eq_true rfl) ?_
    exact law_tail C0 htr hK hI ls (lv_sub hl [2, 6] rfl)
  · have hok : ¬ (xs ((0 : Int32) + (1 : Int32)).toNatClampNeg) < 0 ∧ ¬ 8 ≤ (xs ((0 : Int32) + (1 : Int32)).toNatClampNeg) := ⟨fun h => hbad (Or.inl h), fun h => hbad (Or.inr h)⟩
    refine gw_Wi (As := [.ref o, .int (xs ((0 : Int32) + (1 : Int32)).toNatClampNeg), .ref ou]) (rest := []) M hK hI (c_La_bringr l htr (xs ((0 : Int32) + (1 : Int32)).toNatClampNeg) ou (fun _ => 0) hU o arr fed sent places plain gained check hO sq hS hbS ro hok hL hRo hRs) k_La_bring m_La_114 rfl hl.1 rfl (Nat.le_of_ble_eq_true rfl) ⟨rfl, rfl, ⟨Nat.le_of_ble_eq_true rfl, Nat.le_of_ble_eq_true rfl⟩, ⟨Nat.le_of_ble_eq_true rfl, Nat.le_of_ble_eq_true rfl⟩⟩ d_La_law_882 (fun x9 G10 H locs hw hI => ?_)
    obtain ⟨h_x9, hw⟩ := hw
    subst h_x9
    have hne3 : mo ≠ ou := ne_x hMo hU (fun q => by cases q)
    have hA := hA.fu hU (show gw_fr (fun b => b = ou) G G10 from by rw [hw]; exact gw_fr.up rfl)
    have hMo2 : G10 mo = some (kx (mo_ob q 0 0 0 0)) := by rw [hw, gw_up_n hne3]; exact hMo
    have hU2 : G10 ou = some (kx (.inl (D.2 3, 1, .inr (.inl (vp_updL (fun _ => 0) (0 : Int32).toNatClampNeg (((-1 : Int32)).toInt64)))))) := by rw [hw]; exact gw_up_s
    refine lv_istore (lv' := [(5, .int 0), (4, .int 0), (3, .ref ou), (2, .ref mo), (1, .ref o), (0, .ref b)]) hx hb d_La_law_885 hl (by decide) rfl (fun ls hl => ?_)
    refine lv_aload_n hx hb d_La_law_887 rfl (lv_at hl 3 rfl) ?_
    refine lv_aload_n hx hb d_La_law_888 rfl (lv_at hl 5 rfl) ?_
    refine lv_iload hx hb d_La_law_889 (lv_at hl 1 rfl) ?_
    refine lv_iconst (v := 1) hx hb d_La_law_891 (by decide) ?_
    refine lv_iadd hx hb d_La_law_892 ?_
    refine va_sld hx hb hX hbl hbA hI.2 ix9.2.1 d_La_law_893 ?_
    refine gw_Vi (As := [.int (xs ((0 : Int32) + (1 : Int32)).toNatClampNeg)]) (rest := []) M hK hI (c_Mo_bring l (xs ((0 : Int32) + (1 : Int32)).toNatClampNeg) mo q 0 0 0 0 hMo2 hA) k_Mo_bring m_La_117 hMo2 (ci := 6) rfl (fun x hx => ⟨_, hx⟩) rfl hl.1 rfl (Nat.le_of_ble_eq_true rfl) ⟨rfl, rfl, ⟨Nat.le_of_ble_eq_true rfl, Nat.le_of_ble_eq_true rfl⟩, ⟨Nat.le_of_ble_eq_true rfl, Nat.le_of_ble_eq_true rfl⟩⟩ d_La_law_894 (fun x11 G12 H locs hw hI => ?_)
    have hw := (hw.resolve_right (fun h9 => h9.1.elim hok.1 (fun h8 => h8 (lt8 hok.2)))).2
    obtain ⟨h_x11, hw⟩ := hw
    have hA := hA.fr hMo2 (show gw_fr (fun b => b = mo) G10 G12 from by rw [hw]; exact gw_fr.up rfl)
    have hM13 : G12 mo = some (kx (mo_ob q 0 0 0 0)) := by rw [hw]; exact gw_up_s
    have hn14 : ou ≠ mo := (ne_x hMo2 hU2 (fun q => by cases q)).symm
    have hU15 : G12 ou = some (kx (.inl (D.2 3, 1, .inr (.inl (vp_updL (fun _ => 0) (0 : Int32).toNatClampNeg (((-1 : Int32)).toInt64)))))) := by rw [hw, gw_up_n hn14]; exact hU2
    subst h_x11
    refine lv_istore (lv' := [(6, .int (-1)), (5, .int 0), (4, .int 0), (3, .ref ou), (2, .ref mo), (1, .ref o), (0, .ref b)]) hx hb d_La_law_897 hl (by decide) rfl (fun ls hl => ?_)
    refine lv_aload_n hx hb d_La_law_899 rfl (lv_at hl 4 rfl) ?_
    refine gw_Vi (As := []) (rest := []) M hK hI (c_Mo_thrown l mo q 0 0 0 0 hM13 hA) k_Mo_thrown m_La_67 hM13 (ci := 6) rfl (fun x hx => ⟨_, hx⟩) rfl hl.1 rfl (Nat.le_of_ble_eq_true rfl) ⟨rfl, rfl, ⟨Nat.le_of_ble_eq_true rfl, Nat.le_of_ble_eq_true rfl⟩, ⟨Nat.le_of_ble_eq_true rfl, Nat.le_of_ble_eq_true rfl⟩⟩ d_La_law_900 (fun x16 G9 H locs hw hI => ?_)
    obtain ⟨h_x16, hw9⟩ := hw
    rw [hw9] at hI
    subst h_x16
    refine lv_iload hx hb d_La_law_903 (lv_at hl 1 rfl) ?_
    refine lv_icmp_eq (tgt := 910) hx hb d_La_law_905 (by decide) (fun c_905 => ?_) (fun q9 => absurd (by decide) q9)
    refine lv_iload hx hb d_La_law_910 (lv_at hl 1 rfl) ?_
    refine lv_if_ne (tgt := 927) hx hb d_La_law_912 (by decide) (fun q9 => absurd (by decide) q9) (fun c_912 => ?_)
    refine lv_aload_n hx hb d_La_law_915 rfl (lv_at hl 3 rfl) ?_
    refine lv_iconst (v := 0) hx hb d_La_law_916 (by decide) ?_
    refine gw_laldx M hK hI hU15 (vp_in_nI (n := 0) (by decide) (by decide)) d_La_law_917 ?_
    refine lv_iload hx hb d_La_law_918 (lv_at hl 0 rfl) ?_
    refine lv_i2l hx hb d_La_law_920 rfl ?_
    refine W.lcmp hx hb d_La_law_921 ?_
    refine lv_if_eq (tgt := 927) hx hb d_La_law_922 (by decide) (fun c_922 => ?_) (fun q9 => absurd ((lg_cmp_eq _ _).mpr (pk_uLs (f := fun _ => 0) (k := (0 : Int32).toNatClampNeg))) q9)
    refine lv_goto (tgt := 1141) hx hb d_La_law_927 (by decide) ?_
    refine W.widen (k := 400) (n := 80000) (Nat.le_of_ble_eq_true rfl) (Nat.le_of_ble_eq_true rfl) ?_
    exact law_tail C0 htr hK hI ls (lv_sub hl [2, 6] rfl)

set_option maxHeartbeats 1000000 in
set_option maxRecDepth 100000 in
theorem law_4 {p : Program} {l : Launch} {e : Env} {s : State} {m : MethodId} {below : List Frame} {meth : Method} {c : Code} {b : Nat} {xs : Nat → Int32} (C0 : lw_At p s m meth c b 9 xs) (htr : l.stackTraces = false) {D : gw_D} (hK : gw_K D s.heap s) {G : gw_G} {H : Heap} {locs : List Loc} {o mo ou : Nat} {q : Nat → Nat} (hGp : gp_new D o G) (hMo : G mo = some (kx (mo_ob q 0 0 0 0))) (hA : mo_ok D tZ q G) (hU : G ou = some (kx (.inl (D.2 3, 1, .inr (.inl (fun _ => 0)))))) (hI : gw_I D s.heap G s.heap H locs) (ls : Array Slot) (hl : lv_has ls 8 [(4, .int 0), (3, .ref ou), (2, .ref mo), (1, .ref o), (0, .ref b)]) : W p l e room_1 s m #[Value.ref b] below meth c H locs 300 70000 (lw_Z below #[Value.ref b] s) (F0 m 514 ls []) := by
  obtain ⟨hx, hb, hr, hml, hown, hts, hX, hbl, hlocks, hgv⟩ := id C0
  have M : CallFix p m c b_La_law 8 s #[Value.ref b] tb R_La := ⟨hx, hb, hml, hown, fun w h => hts w (tb_in h)⟩
  have hbA : ¬ gw_A s.heap b := Nat.not_le.mpr hbl
  obtain ⟨arr, fed, sent, places, plain, gained, check, as, ro, hO, hArr, hL, ⟨fq, hF, hbF⟩, ⟨sq, hS, hbS⟩, ⟨gq, hN, hbN⟩, hAs, hRo, hRs⟩ := hGp
  refine lv_aload_n hx hb d_La_law_514 rfl (lv_at hl 3 rfl) ?_
  refine lv_aload_n hx hb d_La_law_515 rfl (lv_at hl 4 rfl) ?_
  refine lv_iload hx hb d_La_law_516 (lv_at hl 0 rfl) ?_
  refine lv_iconst (v := 1) hx hb d_La_law_518 (by decide) ?_
  refine lv_iadd hx hb d_La_law_519 ?_
  refine va_sld hx hb hX hbl hbA hI.2 ix9.2.1 d_La_law_520 ?_
  refine lv_aload_n hx hb d_La_law_521 rfl (lv_at hl 4 rfl) ?_
  refine lv_iload hx hb d_La_law_522 (lv_at hl 0 rfl) ?_
  refine lv_iconst (v := 2) hx hb d_La_law_524 (by decide) ?_
  refine lv_iadd hx hb d_La_law_525 ?_
  refine va_sld hx hb hX hbl hbA hI.2 ix9.2.2.1 d_La_law_526 ?_
  refine lv_i2l hx hb d_La_law_527 rfl ?_
  refine lv_bipush (v := 32) hx hb d_La_law_528 (by decide) ?_
  refine lv_lshl hx hb d_La_law_530 rfl ?_
  refine lv_aload_n hx hb d_La_law_531 rfl (lv_at hl 4 rfl) ?_
  refine lv_iload hx hb d_La_law_532 (lv_at hl 0 rfl) ?_
  refine lv_iconst (v := 3) hx hb d_La_law_534 (by decide) ?_
  refine lv_iadd hx hb d_La_law_535 ?_
  refine va_sld hx hb hX hbl hbA hI.2 ix9.2.2.2.1 d_La_law_536 ?_
  refine lv_i2l hx hb d_La_law_537 rfl ?_
  refine lv_ldc2 (v := 4294967295) hx hb M.2.2.2.1 (M.2.2.2.2 _ o_La_59) d_La_law_538 ?_
  refine lv_land hx hb d_La_law_541 ?_
  refine lv_lor hx hb d_La_law_542 ?_
  refine lv_aload_n hx hb d_La_law_543 rfl (lv_at hl 1 rfl) ?_
  by_cases hbad : (xs ((0 : Int32) + (1 : Int32)).toNatClampNeg) < 1 ∨ ¬ (xs ((0 : Int32) + (1 : Int32)).toNatClampNeg) ≤ 8
  · refine gw_Wi (As := [.ref o, .int (xs ((0 : Int32) + (1 : Int32)).toNatClampNeg), .long (((((xs ((0 : Int32) + (2 : Int32)).toNatClampNeg)).toInt64) <<< (((32 : Int32)).toInt64 &&& 63)) ||| ((((xs ((0 : Int32) + (3 : Int32)).toNatClampNeg)).toInt64) &&& (4294967295 : Int64))), .ref ou]) (rest := []) M hK hI (c_La_feedt l htr (xs ((0 : Int32) + (1 : Int32)).toNatClampNeg) ((((xs ((0 : Int32) + (2 : Int32)).toNatClampNeg)).toInt64 <<< ((32 : Int32).toInt64 &&& 63)) ||| (((xs ((0 : Int32) + (3 : Int32)).toNatClampNeg)).toInt64 &&& (4294967295 : Int64))) ou hbad o arr fed sent places plain gained check hO) k_La_feed m_La_84 rfl hl.1 rfl (Nat.le_of_ble_eq_true rfl) ⟨rfl, rfl, ⟨Nat.le_of_ble_eq_true rfl, Nat.le_of_ble_eq_true rfl⟩, ⟨Nat.le_of_ble_eq_true rfl, Nat.le_of_ble_eq_true rfl⟩⟩ d_La_law_544 (fun x1 G2 H locs hw hI => ?_)
    obtain ⟨h_x1, hw⟩ := hw
    subst h_x1
    rw [hw] at hI
    refine lv_istore (lv' := [(5, .int 1), (4, .int 0), (3, .ref ou), (2, .ref mo), (1, .ref o), (0, .ref b)]) hx hb d_La_law_547 hl (by decide) rfl (fun ls hl => ?_)
    refine lv_aload_n hx hb d_La_law_549 rfl (lv_at hl 3 rfl) ?_
    refine lv_aload_n hx hb d_La_law_550 rfl (lv_at hl 5 rfl) ?_
    refine lv_iload hx hb d_La_law_551 (lv_at hl 1 rfl) ?_
    refine lv_iconst (v := 1) hx hb d_La_law_553 (by decide) ?_
    refine lv_iadd hx hb d_La_law_554 ?_
    refine va_sld hx hb hX hbl hbA hI.2 ix9.2.1 d_La_law_555 ?_
    refine lv_aload_n hx hb d_La_law_556 rfl (lv_at hl 5 rfl) ?_
    refine lv_iload hx hb d_La_law_557 (lv_at hl 1 rfl) ?_
    refine lv_iconst (v := 2) hx hb d_La_law_559 (by decide) ?_
    refine lv_iadd hx hb d_La_law_560 ?_
    refine va_sld hx hb hX hbl hbA hI.2 ix9.2.2.1 d_La_law_561 ?_
    refine lv_i2l hx hb d_La_law_562 rfl ?_
    refine lv_bipush (v := 32) hx hb d_La_law_563 (by decide) ?_
    refine lv_lshl hx hb d_La_law_565 rfl ?_
    refine lv_aload_n hx hb d_La_law_566 rfl (lv_at hl 5 rfl) ?_
    refine lv_iload hx hb d_La_law_567 (lv_at hl 1 rfl) ?_
    refine lv_iconst (v := 3) hx hb d_La_law_569 (by decide) ?_
    refine lv_iadd hx hb d_La_law_570 ?_
    refine va_sld hx hb hX hbl hbA hI.2 ix9.2.2.2.1 d_La_law_571 ?_
    refine lv_i2l hx hb d_La_law_572 rfl ?_
    refine lv_ldc2 (v := 4294967295) hx hb M.2.2.2.1 (M.2.2.2.2 _ o_La_59) d_La_law_573 ?_
    refine lv_land hx hb d_La_law_576 ?_
    refine lv_lor hx hb d_La_law_577 ?_
    refine gw_Vi (As := [.int (xs ((0 : Int32) + (1 : Int32)).toNatClampNeg), .long (((((xs ((0 : Int32) + (2 : Int32)).toNatClampNeg)).toInt64) <<< (((32 : Int32)).toInt64 &&& 63)) ||| ((((xs ((0 : Int32) + (3 : Int32)).toNatClampNeg)).toInt64) &&& (4294967295 : Int64)))]) (rest := []) M hK hI (c_Mo_feed l (xs ((0 : Int32) + (1 : Int32)).toNatClampNeg) ((((xs ((0 : Int32) + (2 : Int32)).toNatClampNeg)).toInt64 <<< ((32 : Int32).toInt64 &&& 63)) ||| (((xs ((0 : Int32) + (3 : Int32)).toNatClampNeg)).toInt64 &&& (4294967295 : Int64))) mo q 0 0 0 hMo hA) k_Mo_feed m_La_87 hMo (ci := 6) rfl (fun x hx => ⟨_, hx⟩) rfl hl.1 rfl (Nat.le_of_ble_eq_true rfl) ⟨rfl, rfl, ⟨Nat.le_of_ble_eq_true rfl, Nat.le_of_ble_eq_true rfl⟩, ⟨Nat.le_of_ble_eq_true rfl, Nat.le_of_ble_eq_true rfl⟩⟩ d_La_law_578 (fun x3 G4 H locs hw hI => ?_)
    have hw := (hw.resolve_right (fun h9 => hbad.elim h9.1.1 (fun h8 => h8 h9.1.2))).2
    have hA := hA.fr hMo (show gw_fr (fun b => b = mo) G G4 from by rw [hw]; exact gw_fr.up rfl)
    have hM5 : G4 mo = some (kx (mo_ob q 1 0 0 0)) := by rw [hw]; exact gw_up_s
    have hn6 : ou ≠ mo := (ne_x hMo hU (fun q => by cases q)).symm
    have hU7 : G4 ou = some (kx (.inl (D.2 3, 1, .inr (.inl (fun _ => 0))))) := by rw [hw, gw_up_n hn6]; exact hU
    refine lv_istore (lv' := [(6, .int x3), (5, .int 1), (4, .int 0), (3, .ref ou), (2, .ref mo), (1, .ref o), (0, .ref b)]) hx hb d_La_law_581 hl (by decide) rfl (fun ls hl => ?_)
    refine lv_aload_n hx hb d_La_law_583 rfl (lv_at hl 4 rfl) ?_
    refine gw_Vi (As := []) (rest := []) M hK hI (c_Mo_thrown l mo q 1 0 0 0 hM5 hA) k_Mo_thrown m_La_67 hM5 (ci := 6) rfl (fun x hx => ⟨_, hx⟩) rfl hl.1 rfl (Nat.le_of_ble_eq_true rfl) ⟨rfl, rfl, ⟨Nat.le_of_ble_eq_true rfl, Nat.le_of_ble_eq_true rfl⟩, ⟨Nat.le_of_ble_eq_true rfl, Nat.le_of_ble_eq_true rfl⟩⟩ d_La_law_584 (fun x8 G9 H locs hw hI => ?_)
    obtain ⟨h_x8, hw9⟩ := hw
    rw [hw9] at hI
    subst h_x8
    refine lv_iload hx hb d_La_law_587 (lv_at hl 1 rfl) ?_
    refine lv_icmp_eq (tgt := 594) hx hb d_La_law_589 (by decide) (fun c_589 => ?_) (fun q9 => absurd (by decide) q9)
    refine lv_iload hx hb d_La_law_594 (lv_at hl 1 rfl) ?_
    refine lv_if_ne (tgt := 611) hx hb d_La_law_596 (by decide) (fun c_596 => ?_) (fun q9 => absurd q9 (by decide))
    refine lv_goto (tgt := 1141) hx hb d_La_law_611 (by decide) ?_
    refine W.widen (k := 400) (n := 80000) (Nat.le_of_ble_eq_true rfl) (Nat.le_of_ble_eq_true rfl) ?_
    exact law_tail C0 htr hK hI ls (lv_sub hl [2, 6] rfl)
  · have hok : ¬ (xs ((0 : Int32) + (1 : Int32)).toNatClampNeg) < 1 ∧ (xs ((0 : Int32) + (1 : Int32)).toNatClampNeg) ≤ 8 := ⟨fun h => hbad (Or.inl h), Classical.not_not.mp (fun h => hbad (Or.inr h))⟩
    refine gw_Wi (As := [.ref o, .int (xs ((0 : Int32) + (1 : Int32)).toNatClampNeg), .long (((((xs ((0 : Int32) + (2 : Int32)).toNatClampNeg)).toInt64) <<< (((32 : Int32)).toInt64 &&& 63)) ||| ((((xs ((0 : Int32) + (3 : Int32)).toNatClampNeg)).toInt64) &&& (4294967295 : Int64))), .ref ou]) (rest := []) M hK hI (c_La_feedr l htr (xs ((0 : Int32) + (1 : Int32)).toNatClampNeg) ((((xs ((0 : Int32) + (2 : Int32)).toNatClampNeg)).toInt64 <<< ((32 : Int32).toInt64 &&& 63)) ||| (((xs ((0 : Int32) + (3 : Int32)).toNatClampNeg)).toInt64 &&& (4294967295 : Int64))) hok ou (fun _ => 0) hU o arr fed sent places plain gained check hO fq hF hbF) k_La_feed m_La_84 rfl hl.1 rfl (Nat.le_of_ble_eq_true rfl) ⟨rfl, rfl, ⟨Nat.le_of_ble_eq_true rfl, Nat.le_of_ble_eq_true rfl⟩, ⟨Nat.le_of_ble_eq_true rfl, Nat.le_of_ble_eq_true rfl⟩⟩ d_La_law_544 (fun x9 G10 H locs hw hI => ?_)
    obtain ⟨h_x9, hw⟩ := hw
    subst h_x9
    have hne1 : mo ≠ fed := ne_x hMo hF (fun q => by cases q)
    have hne2 : ou ≠ fed := (ne_x hF hU (fun q => by cases q)).symm
    obtain ⟨Gi, hGi⟩ : ∃ z, z = gw_up G fed (kx (.inr (3, [.ref fq, .int (xs ((0 : Int32) + (1 : Int32)).toNatClampNeg), .int 0]))) := ⟨_, rfl⟩
    rw [← hGi] at hw
    have hA := hA.fr hF (show gw_fr (fun b => b = fed) G Gi from by rw [hGi]; exact gw_fr.up rfl)
    have hMo : Gi mo = some (kx (mo_ob q 0 0 0 0)) := by rw [hGi, gw_up_n hne1]; exact hMo
    have hU : Gi ou = some (kx (.inl (D.2 3, 1, .inr (.inl (fun _ => 0))))) := by rw [hGi, gw_up_n hne2]; exact hU
    have hne3 : mo ≠ ou := ne_x hMo hU (fun q => by cases q)
    have hA := hA.fu hU (show gw_fr (fun b => b = ou) Gi G10 from by rw [hw]; exact gw_fr.up rfl)
    have hMo2 : G10 mo = some (kx (mo_ob q 0 0 0 0)) := by rw [hw, gw_up_n hne3]; exact hMo
    have hU2 : G10 ou = some (kx (.inl (D.2 3, 1, .inr (.inl (vp_updL (fun _ => 0) (0 : Int32).toNatClampNeg (((xs ((0 : Int32) + (1 : Int32)).toNatClampNeg)).toInt64)))))) := by rw [hw]; exact gw_up_s
    refine lv_istore (lv' := [(5, .int 0), (4, .int 0), (3, .ref ou), (2, .ref mo), (1, .ref o), (0, .ref b)]) hx hb d_La_law_547 hl (by decide) rfl (fun ls hl => ?_)
    refine lv_aload_n hx hb d_La_law_549 rfl (lv_at hl 3 rfl) ?_
    refine lv_aload_n hx hb d_La_law_550 rfl (lv_at hl 5 rfl) ?_
    refine lv_iload hx hb d_La_law_551 (lv_at hl 1 rfl) ?_
    refine lv_iconst (v := 1) hx hb d_La_law_553 (by decide) ?_
    refine lv_iadd hx hb d_La_law_554 ?_
    refine va_sld hx hb hX hbl hbA hI.2 ix9.2.1 d_La_law_555 ?_
    refine lv_aload_n hx hb d_La_law_556 rfl (lv_at hl 5 rfl) ?_
    refine lv_iload hx hb d_La_law_557 (lv_at hl 1 rfl) ?_
    refine lv_iconst (v := 2) hx hb d_La_law_559 (by decide) ?_
    refine lv_iadd hx hb d_La_law_560 ?_
    refine va_sld hx hb hX hbl hbA hI.2 ix9.2.2.1 d_La_law_561 ?_
    refine lv_i2l hx hb d_La_law_562 rfl ?_
    refine lv_bipush (v := 32) hx hb d_La_law_563 (by decide) ?_
    refine lv_lshl hx hb d_La_law_565 rfl ?_
    refine lv_aload_n hx hb d_La_law_566 rfl (lv_at hl 5 rfl) ?_
    refine lv_iload hx hb d_La_law_567 (lv_at hl 1 rfl) ?_
    refine lv_iconst (v := 3) hx hb d_La_law_569 (by decide) ?_
    refine lv_iadd hx hb d_La_law_570 ?_
    refine va_sld hx hb hX hbl hbA hI.2 ix9.2.2.2.1 d_La_law_571 ?_
    refine lv_i2l hx hb d_La_law_572 rfl ?_
    refine lv_ldc2 (v := 4294967295) hx hb M.2.2.2.1 (M.2.2.2.2 _ o_La_59) d_La_law_573 ?_
    refine lv_land hx hb d_La_law_576 ?_
    refine lv_lor hx hb d_La_law_577 ?_
    refine gw_Vi (As := [.int (xs ((0 : Int32) + (1 : Int32)).toNatClampNeg), .long (((((xs ((0 : Int32) + (2 : Int32)).toNatClampNeg)).toInt64) <<< (((32 : Int32)).toInt64 &&& 63)) ||| ((((xs ((0 : Int32) + (3 : Int32)).toNatClampNeg)).toInt64) &&& (4294967295 : Int64)))]) (rest := []) M hK hI (c_Mo_feed l (xs ((0 : Int32) + (1 : Int32)).toNatClampNeg) ((((xs ((0 : Int32) + (2 : Int32)).toNatClampNeg)).toInt64 <<< ((32 : Int32).toInt64 &&& 63)) ||| (((xs ((0 : Int32) + (3 : Int32)).toNatClampNeg)).toInt64 &&& (4294967295 : Int64))) mo q 0 0 0 hMo2 hA) k_Mo_feed m_La_87 hMo2 (ci := 6) rfl (fun x hx => ⟨_, hx⟩) rfl hl.1 rfl (Nat.le_of_ble_eq_true rfl) ⟨rfl, rfl, ⟨Nat.le_of_ble_eq_true rfl, Nat.le_of_ble_eq_true rfl⟩, ⟨Nat.le_of_ble_eq_true rfl, Nat.le_of_ble_eq_true rfl⟩⟩ d_La_law_578 (fun x11 G12 H locs hw hI => ?_)
    have hw := (hw.resolve_left (fun h9 => h9.1.elim hok.1 (fun h8 => h8 hok.2))).2
    obtain ⟨h_x11, hw⟩ := hw
    have hA := hA.fr hMo2 (show gw_fr (fun b => b = mo) G10 G12 from by rw [hw]; exact gw_fr.up rfl)
    have hM13 : G12 mo = some (kx (mo_ob q 0 (xs ((0 : Int32) + (1 : Int32)).toNatClampNeg) 0 0)) := by rw [hw]; exact gw_up_s
    have hn14 : ou ≠ mo := (ne_x hMo2 hU2 (fun q => by cases q)).symm
    have hU15 : G12 ou = some (kx (.inl (D.2 3, 1, .inr (.inl (vp_updL (fun _ => 0) (0 : Int32).toNatClampNeg (((xs ((0 : Int32) + (1 : Int32)).toNatClampNeg)).toInt64)))))) := by rw [hw, gw_up_n hn14]; exact hU2
    subst h_x11
    refine lv_topi (fun x16 e_x16 => ?_)
    refine lv_istore (lv' := [(6, .int x16), (5, .int 0), (4, .int 0), (3, .ref ou), (2, .ref mo), (1, .ref o), (0, .ref b)]) hx hb d_La_law_581 hl (by decide) rfl (fun ls hl => ?_)
    refine lv_aload_n hx hb d_La_law_583 rfl (lv_at hl 4 rfl) ?_
    refine gw_Vi (As := []) (rest := []) M hK hI (c_Mo_thrown l mo q 0 (xs ((0 : Int32) + (1 : Int32)).toNatClampNeg) 0 0 hM13 hA) k_Mo_thrown m_La_67 hM13 (ci := 6) rfl (fun x hx => ⟨_, hx⟩) rfl hl.1 rfl (Nat.le_of_ble_eq_true rfl) ⟨rfl, rfl, ⟨Nat.le_of_ble_eq_true rfl, Nat.le_of_ble_eq_true rfl⟩, ⟨Nat.le_of_ble_eq_true rfl, Nat.le_of_ble_eq_true rfl⟩⟩ d_La_law_584 (fun x17 G9 H locs hw hI => ?_)
    obtain ⟨h_x17, hw9⟩ := hw
    rw [hw9] at hI
    subst h_x17
    refine lv_iload hx hb d_La_law_587 (lv_at hl 1 rfl) ?_
    refine lv_icmp_eq (tgt := 594) hx hb d_La_law_589 (by decide) (fun c_589 => ?_) (fun q9 => absurd (by decide) q9)
    refine lv_iload hx hb d_La_law_594 (lv_at hl 1 rfl) ?_
    refine lv_if_ne (tgt := 611) hx hb d_La_law_596 (by decide) (fun q9 => absurd (by decide) q9) (fun c_596 => ?_)
    refine lv_aload_n hx hb d_La_law_599 rfl (lv_at hl 3 rfl) ?_
    refine lv_iconst (v := 0) hx hb d_La_law_600 (by decide) ?_
    refine gw_laldx M hK hI hU15 (vp_in_nI (n := 0) (by decide) (by decide)) d_La_law_601 ?_
    refine lv_iload hx hb d_La_law_602 (lv_at hl 0 rfl) ?_
    refine lv_i2l hx hb d_La_law_604 rfl ?_
    refine W.lcmp hx hb d_La_law_605 ?_
    refine lv_if_eq (tgt := 611) hx hb d_La_law_606 (by decide) (fun c_606 => ?_) (fun q9 => absurd ((lg_cmp_eq _ _).mpr (by rw [e_x16]; exact pk_uLs)) q9)
    refine lv_goto (tgt := 1141) hx hb d_La_law_611 (by decide) ?_
    refine W.widen (k := 400) (n := 80000) (Nat.le_of_ble_eq_true rfl) (Nat.le_of_ble_eq_true rfl) ?_
    exact law_tail C0 htr hK hI ls (lv_sub hl [2, 6] rfl)

set_option maxHeartbeats 1000000 in
set_option maxRecDepth 100000 in
theorem law_0 {p : Program} {l : Launch} {e : Env} {s : State} {m : MethodId} {below : List Frame} {meth : Method} {c : Code} {b : Nat} {xs : Nat → Int32} (C0 : lw_At p s m meth c b 9 xs) (htr : l.stackTraces = false) {D : gw_D} (hK : gw_K D s.heap s) {G : gw_G} {H : Heap} {locs : List Loc} {o mo ou : Nat} {q : Nat → Nat} (hGp : gp_new D o G) (hMo : G mo = some (kx (mo_ob q 0 0 0 0))) (hA : mo_ok D tZ q G) (hU : G ou = some (kx (.inl (D.2 3, 1, .inr (.inl (fun _ => 0)))))) (hI : gw_I D s.heap G s.heap H locs) (ls : Array Slot) (hl : lv_has ls 8 [(4, .int 0), (3, .ref ou), (2, .ref mo), (1, .ref o), (0, .ref b)]) : W p l e room_1 s m #[Value.ref b] below meth c H locs 300 70000 (lw_Z below #[Value.ref b] s) (F0 m 132 ls []) := by
  obtain ⟨hx, hb, hr, hml, hown, hts, hX, hbl, hlocks, hgv⟩ := id C0
  have M : CallFix p m c b_La_law 8 s #[Value.ref b] tb R_La := ⟨hx, hb, hml, hown, fun w h => hts w (tb_in h)⟩
  have hbA : ¬ gw_A s.heap b := Nat.not_le.mpr hbl
  obtain ⟨arr, fed, sent, places, plain, gained, check, as, ro, hO, hArr, hL, ⟨fq, hF, hbF⟩, ⟨sq, hS, hbS⟩, ⟨gq, hN, hbN⟩, hAs, hRo, hRs⟩ := hGp
  refine lv_aload_n hx hb d_La_law_132 rfl (lv_at hl 3 rfl) ?_
  refine lv_aload_n hx hb d_La_law_133 rfl (lv_at hl 4 rfl) ?_
  refine lv_iload hx hb d_La_law_134 (lv_at hl 0 rfl) ?_
  refine lv_iconst (v := 1) hx hb d_La_law_136 (by decide) ?_
  refine lv_iadd hx hb d_La_law_137 ?_
  refine va_sld hx hb hX hbl hbA hI.2 ix9.2.1 d_La_law_138 ?_
  refine lv_aload_n hx hb d_La_law_139 rfl (lv_at hl 4 rfl) ?_
  refine lv_iload hx hb d_La_law_140 (lv_at hl 0 rfl) ?_
  refine lv_iconst (v := 2) hx hb d_La_law_142 (by decide) ?_
  refine lv_iadd hx hb d_La_law_143 ?_
  refine va_sld hx hb hX hbl hbA hI.2 ix9.2.2.1 d_La_law_144 ?_
  refine lv_i2l hx hb d_La_law_145 rfl ?_
  refine lv_bipush (v := 32) hx hb d_La_law_146 (by decide) ?_
  refine lv_lshl hx hb d_La_law_148 rfl ?_
  refine lv_aload_n hx hb d_La_law_149 rfl (lv_at hl 4 rfl) ?_
  refine lv_iload hx hb d_La_law_150 (lv_at hl 0 rfl) ?_
  refine lv_iconst (v := 3) hx hb d_La_law_152 (by decide) ?_
  refine lv_iadd hx hb d_La_law_153 ?_
  refine va_sld hx hb hX hbl hbA hI.2 ix9.2.2.2.1 d_La_law_154 ?_
  refine lv_i2l hx hb d_La_law_155 rfl ?_
  refine lv_ldc2 (v := 4294967295) hx hb M.2.2.2.1 (M.2.2.2.2 _ o_La_59) d_La_law_156 ?_
  refine lv_land hx hb d_La_law_159 ?_
  refine lv_lor hx hb d_La_law_160 ?_
  refine lv_aload_n hx hb d_La_law_161 rfl (lv_at hl 4 rfl) ?_
  refine lv_iload hx hb d_La_law_162 (lv_at hl 0 rfl) ?_
  refine lv_iconst (v := 4) hx hb d_La_law_164 (by decide) ?_
  refine lv_iadd hx hb d_La_law_165 ?_
  refine va_sld hx hb hX hbl hbA hI.2 ix9.2.2.2.2.1 d_La_law_166 ?_
  refine lv_i2l hx hb d_La_law_167 rfl ?_
  refine lv_bipush (v := 32) hx hb d_La_law_168 (by decide) ?_
  refine lv_lshl hx hb d_La_law_170 rfl ?_
  refine lv_aload_n hx hb d_La_law_171 rfl (lv_at hl 4 rfl) ?_
  refine lv_iload hx hb d_La_law_172 (lv_at hl 0 rfl) ?_
  refine lv_iconst (v := 5) hx hb d_La_law_174 (by decide) ?_
  refine lv_iadd hx hb d_La_law_175 ?_
  refine va_sld hx hb hX hbl hbA hI.2 ix9.2.2.2.2.2.1 d_La_law_176 ?_
  refine lv_i2l hx hb d_La_law_177 rfl ?_
  refine lv_ldc2 (v := 4294967295) hx hb M.2.2.2.1 (M.2.2.2.2 _ o_La_59) d_La_law_178 ?_
  refine lv_land hx hb d_La_law_181 ?_
  refine lv_lor hx hb d_La_law_182 ?_
  refine lv_aload_n hx hb d_La_law_183 rfl (lv_at hl 4 rfl) ?_
  refine lv_iload hx hb d_La_law_184 (lv_at hl 0 rfl) ?_
  refine lv_bipush (v := 6) hx hb d_La_law_186 (by decide) ?_
  refine lv_iadd hx hb d_La_law_188 ?_
  refine va_sld hx hb hX hbl hbA hI.2 ix9.2.2.2.2.2.2.1 d_La_law_189 ?_
  refine lv_aload_n hx hb d_La_law_190 rfl (lv_at hl 4 rfl) ?_
  refine lv_iload hx hb d_La_law_191 (lv_at hl 0 rfl) ?_
  refine lv_bipush (v := 7) hx hb d_La_law_193 (by decide) ?_
  refine lv_iadd hx hb d_La_law_195 ?_
  refine va_sld hx hb hX hbl hbA hI.2 ix9.2.2.2.2.2.2.2.1 d_La_law_196 ?_
  refine lv_aload_n hx hb d_La_law_197 rfl (lv_at hl 4 rfl) ?_
  refine lv_iload hx hb d_La_law_198 (lv_at hl 0 rfl) ?_
  refine lv_bipush (v := 8) hx hb d_La_law_200 (by decide) ?_
  refine lv_iadd hx hb d_La_law_202 ?_
  refine va_sld hx hb hX hbl hbA hI.2 ix9.2.2.2.2.2.2.2.2 d_La_law_203 ?_
  refine lv_if_eq (tgt := 211) hx hb d_La_law_204 (by decide) (fun c_204 => ?_) (fun c_204 => ?_)
  · refine lv_iconst (v := 0) hx hb d_La_law_211 (by decide) ?_
    refine lv_aload_n hx hb d_La_law_212 rfl (lv_at hl 1 rfl) ?_
    by_cases hbad : (xs ((0 : Int32) + (1 : Int32)).toNatClampNeg) < 256 ∨ ¬ okW (xs ((0 : Int32) + (7 : Int32)).toNatClampNeg)
    · refine gw_Wi (As := [.ref o, .int (xs ((0 : Int32) + (1 : Int32)).toNatClampNeg), .long (((((xs ((0 : Int32) + (2 : Int32)).toNatClampNeg)).toInt64) <<< (((32 : Int32)).toInt64 &&& 63)) ||| ((((xs ((0 : Int32) + (3 : Int32)).toNatClampNeg)).toInt64) &&& (4294967295 : Int64))), .long (((((xs ((0 : Int32) + (4 : Int32)).toNatClampNeg)).toInt64) <<< (((32 : Int32)).toInt64 &&& 63)) ||| ((((xs ((0 : Int32) + (5 : Int32)).toNatClampNeg)).toInt64) &&& (4294967295 : Int64))), .int (xs ((0 : Int32) + (6 : Int32)).toNatClampNeg), .int (xs ((0 : Int32) + (7 : Int32)).toNatClampNeg), .int 0, .ref ou]) (rest := []) M hK hI (c_La_addt l htr (xs ((0 : Int32) + (1 : Int32)).toNatClampNeg) ((((xs ((0 : Int32) + (2 : Int32)).toNatClampNeg)).toInt64 <<< ((32 : Int32).toInt64 &&& 63)) ||| (((xs ((0 : Int32) + (3 : Int32)).toNatClampNeg)).toInt64 &&& (4294967295 : Int64))) ((((xs ((0 : Int32) + (4 : Int32)).toNatClampNeg)).toInt64 <<< ((32 : Int32).toInt64 &&& 63)) ||| (((xs ((0 : Int32) + (5 : Int32)).toNatClampNeg)).toInt64 &&& (4294967295 : Int64))) (xs ((0 : Int32) + (6 : Int32)).toNatClampNeg) (xs ((0 : Int32) + (7 : Int32)).toNatClampNeg) 0 ou hbad o arr fed sent places plain gained check hO) k_La_add m_La_61 rfl hl.1 rfl (Nat.le_of_ble_eq_true rfl) ⟨rfl, rfl, ⟨Nat.le_of_ble_eq_true rfl, Nat.le_of_ble_eq_true rfl⟩, ⟨Nat.le_of_ble_eq_true rfl, Nat.le_of_ble_eq_true rfl⟩⟩ d_La_law_213 (fun x1 G2 H locs hw hI => ?_)
      obtain ⟨h_x1, hw⟩ := hw
      subst h_x1
      rw [hw] at hI
      refine lv_istore (lv' := [(5, .int 1), (4, .int 0), (3, .ref ou), (2, .ref mo), (1, .ref o), (0, .ref b)]) hx hb d_La_law_216 hl (by decide) rfl (fun ls hl => ?_)
      refine lv_aload_n hx hb d_La_law_218 rfl (lv_at hl 3 rfl) ?_
      refine lv_aload_n hx hb d_La_law_219 rfl (lv_at hl 5 rfl) ?_
      refine lv_iload hx hb d_La_law_220 (lv_at hl 1 rfl) ?_
      refine lv_iconst (v := 1) hx hb d_La_law_222 (by decide) ?_
      refine lv_iadd hx hb d_La_law_223 ?_
      refine va_sld hx hb hX hbl hbA hI.2 ix9.2.1 d_La_law_224 ?_
      refine lv_aload_n hx hb d_La_law_225 rfl (lv_at hl 5 rfl) ?_
      refine lv_iload hx hb d_La_law_226 (lv_at hl 1 rfl) ?_
      refine lv_iconst (v := 2) hx hb d_La_law_228 (by decide) ?_
      refine lv_iadd hx hb d_La_law_229 ?_
      refine va_sld hx hb hX hbl hbA hI.2 ix9.2.2.1 d_La_law_230 ?_
      refine lv_i2l hx hb d_La_law_231 rfl ?_
      refine lv_bipush (v := 32) hx hb d_La_law_232 (by decide) ?_
      refine lv_lshl hx hb d_La_law_234 rfl ?_
      refine lv_aload_n hx hb d_La_law_235 rfl (lv_at hl 5 rfl) ?_
      refine lv_iload hx hb d_La_law_236 (lv_at hl 1 rfl) ?_
      refine lv_iconst (v := 3) hx hb d_La_law_238 (by decide) ?_
      refine lv_iadd hx hb d_La_law_239 ?_
      refine va_sld hx hb hX hbl hbA hI.2 ix9.2.2.2.1 d_La_law_240 ?_
      refine lv_i2l hx hb d_La_law_241 rfl ?_
      refine lv_ldc2 (v := 4294967295) hx hb M.2.2.2.1 (M.2.2.2.2 _ o_La_59) d_La_law_242 ?_
      refine lv_land hx hb d_La_law_245 ?_
      refine lv_lor hx hb d_La_law_246 ?_
      refine lv_aload_n hx hb d_La_law_247 rfl (lv_at hl 5 rfl) ?_
      refine lv_iload hx hb d_La_law_248 (lv_at hl 1 rfl) ?_
      refine lv_iconst (v := 4) hx hb d_La_law_250 (by decide) ?_
      refine lv_iadd hx hb d_La_law_251 ?_
      refine va_sld hx hb hX hbl hbA hI.2 ix9.2.2.2.2.1 d_La_law_252 ?_
      refine lv_i2l hx hb d_La_law_253 rfl ?_
      refine lv_bipush (v := 32) hx hb d_La_law_254 (by decide) ?_
      refine lv_lshl hx hb d_La_law_256 rfl ?_
      refine lv_aload_n hx hb d_La_law_257 rfl (lv_at hl 5 rfl) ?_
      refine lv_iload hx hb d_La_law_258 (lv_at hl 1 rfl) ?_
      refine lv_iconst (v := 5) hx hb d_La_law_260 (by decide) ?_
      refine lv_iadd hx hb d_La_law_261 ?_
      refine va_sld hx hb hX hbl hbA hI.2 ix9.2.2.2.2.2.1 d_La_law_262 ?_
      refine lv_i2l hx hb d_La_law_263 rfl ?_
      refine lv_ldc2 (v := 4294967295) hx hb M.2.2.2.1 (M.2.2.2.2 _ o_La_59) d_La_law_264 ?_
      refine lv_land hx hb d_La_law_267 ?_
      refine lv_lor hx hb d_La_law_268 ?_
      refine lv_aload_n hx hb d_La_law_269 rfl (lv_at hl 5 rfl) ?_
      refine lv_iload hx hb d_La_law_270 (lv_at hl 1 rfl) ?_
      refine lv_bipush (v := 6) hx hb d_La_law_272 (by decide) ?_
      refine lv_iadd hx hb d_La_law_274 ?_
      refine va_sld hx hb hX hbl hbA hI.2 ix9.2.2.2.2.2.2.1 d_La_law_275 ?_
      refine lv_aload_n hx hb d_La_law_276 rfl (lv_at hl 5 rfl) ?_
      refine lv_iload hx hb d_La_law_277 (lv_at hl 1 rfl) ?_
      refine lv_bipush (v := 7) hx hb d_La_law_279 (by decide) ?_
      refine lv_iadd hx hb d_La_law_281 ?_
      refine va_sld hx hb hX hbl hbA hI.2 ix9.2.2.2.2.2.2.2.1 d_La_law_282 ?_
      refine lv_aload_n hx hb d_La_law_283 rfl (lv_at hl 5 rfl) ?_
      refine lv_iload hx hb d_La_law_284 (lv_at hl 1 rfl) ?_
      refine lv_bipush (v := 8) hx hb d_La_law_286 (by decide) ?_
      refine lv_iadd hx hb d_La_law_288 ?_
      refine va_sld hx hb hX hbl hbA hI.2 ix9.2.2.2.2.2.2.2.2 d_La_law_289 ?_
      refine lv_if_eq (tgt := 297) hx hb d_La_law_290 (by decide) (fun c_290 => ?_) (fun q9 => absurd c_204 q9)
      refine lv_iconst (v := 0) hx hb d_La_law_297 (by decide) ?_
      refine gw_Vi (As := [.int (xs ((0 : Int32) + (1 : Int32)).toNatClampNeg), .long (((((xs ((0 : Int32) + (2 : Int32)).toNatClampNeg)).toInt64) <<< (((32 : Int32)).toInt64 &&& 63)) ||| ((((xs ((0 : Int32) + (3 : Int32)).toNatClampNeg)).toInt64) &&& (4294967295 : Int64))), .long (((((xs ((0 : Int32) + (4 : Int32)).toNatClampNeg)).toInt64) <<< (((32 : Int32)).toInt64 &&& 63)) ||| ((((xs ((0 : Int32) + (5 : Int32)).toNatClampNeg)).toInt64) &&& (4294967295 : Int64))), .int (xs ((0 : Int32) + (6 : Int32)).toNatClampNeg), .int (xs ((0 : Int32) + (7 : Int32)).toNatClampNeg), .int 0]) (rest := []) M hK hI (c_Mo_add l (xs ((0 : Int32) + (1 : Int32)).toNatClampNeg) ((((xs ((0 : Int32) + (2 : Int32)).toNatClampNeg)).toInt64 <<< ((32 : Int32).toInt64 &&& 63)) ||| (((xs ((0 : Int32) + (3 : Int32)).toNatClampNeg)).toInt64 &&& (4294967295 : Int64))) ((((xs ((0 : Int32) + (4 : Int32)).toNatClampNeg)).toInt64 <<< ((32 : Int32).toInt64 &&& 63)) ||| (((xs ((0 : Int32) + (5 : Int32)).toNatClampNeg)).toInt64 &&& (4294967295 : Int64))) (xs ((0 : Int32) + (6 : Int32)).toNatClampNeg) (xs ((0 : Int32) + (7 : Int32)).toNatClampNeg) 0 (Or.inl rfl) mo q 0 0 0 0 hMo hA) k_Mo_add m_La_66 hMo (ci := 6) rfl (fun x hx => ⟨_, hx⟩) rfl hl.1 rfl (Nat.le_of_ble_eq_true rfl) ⟨rfl, rfl, ⟨Nat.le_of_ble_eq_true rfl, Nat.le_of_ble_eq_true rfl⟩, ⟨Nat.le_of_ble_eq_true rfl, Nat.le_of_ble_eq_true rfl⟩⟩ d_La_law_298 (fun x3 G4 H locs hw hI => ?_)
      have hw := (hw.resolve_right (fun h9 => hbad.elim h9.1.1 (fun h8 => h8 h9.1.2))).2
      have hA := hA.fr hMo (show gw_fr (fun b => b = mo) G G4 from by rw [hw]; exact gw_fr.up rfl)
      have hM5 : G4 mo = some (kx (mo_ob q 1 0 0 0)) := by rw [hw]; exact gw_up_s
      have hn6 : ou ≠ mo := (ne_x hMo hU (fun q => by cases q)).symm
      have hU7 : G4 ou = some (kx (.inl (D.2 3, 1, .inr (.inl (fun _ => 0))))) := by rw [hw, gw_up_n hn6]; exact hU
      refine lv_istore (lv' := [(6, .int x3), (5, .int 1), (4, .int 0), (3, .ref ou), (2, .ref mo), (1, .ref o), (0, .ref b)]) hx hb d_La_law_301 hl (by decide) rfl (fun ls hl => ?_)
      refine lv_aload_n hx hb d_La_law_303 rfl (lv_at hl 4 rfl) ?_
      refine gw_Vi (As := []) (rest := []) M hK hI (c_Mo_thrown l mo q 1 0 0 0 hM5 hA) k_Mo_thrown m_La_67 hM5 (ci := 6) rfl (fun x hx => ⟨_, hx⟩) rfl hl.1 rfl (Nat.le_of_ble_eq_true rfl) ⟨rfl, rfl, ⟨Nat.le_of_ble_eq_true rfl, Nat.le_of_ble_eq_true rfl⟩, ⟨Nat.le_of_ble_eq_true rfl, Nat.le_of_ble_eq_true rfl⟩⟩ d_La_law_304 (fun x8 G9 H locs hw hI => ?_)
      obtain ⟨h_x8, hw9⟩ := hw
      rw [hw9] at hI
      subst h_x8
      refine lv_iload hx hb d_La_law_307 (lv_at hl 1 rfl) ?_
      refine lv_icmp_eq (tgt := 314) hx hb d_La_law_309 (by decide) (fun c_309 => ?_) (fun q9 => absurd (by decide) q9)
      refine lv_iload hx hb d_La_law_314 (lv_at hl 1 rfl) ?_
      refine lv_if_ne (tgt := 338) hx hb d_La_law_316 (by decide) (fun c_316 => ?_) (fun q9 => absurd q9 (by decide))
      refine lv_goto (tgt := 1141) hx hb d_La_law_338 (by decide) ?_
      refine W.widen (k := 400) (n := 80000) (Nat.le_of_ble_eq_true rfl) (Nat.le_of_ble_eq_true rfl) ?_
      exact law_tail C0 htr hK hI ls (lv_sub hl [2, 6] rfl)
    · have hok : ¬ (xs ((0 : Int32) + (1 : Int32)).toNatClampNeg) < 256 ∧ okW (xs ((0 : Int32) + (7 : Int32)).toNatClampNeg) := ⟨fun h => hbad (Or.inl h), Classical.not_not.mp (fun h => hbad (Or.inr h))⟩
      refine gw_Wi (As := [.ref o, .int (xs ((0 : Int32) + (1 : Int32)).toNatClampNeg), .long (((((xs ((0 : Int32) + (2 : Int32)).toNatClampNeg)).toInt64) <<< (((32 : Int32)).toInt64 &&& 63)) ||| ((((xs ((0 : Int32) + (3 : Int32)).toNatClampNeg)).toInt64) &&& (4294967295 : Int64))), .long (((((xs ((0 : Int32) + (4 : Int32)).toNatClampNeg)).toInt64) <<< (((32 : Int32)).toInt64 &&& 63)) ||| ((((xs ((0 : Int32) + (5 : Int32)).toNatClampNeg)).toInt64) &&& (4294967295 : Int64))), .int (xs ((0 : Int32) + (6 : Int32)).toNatClampNeg), .int (xs ((0 : Int32) + (7 : Int32)).toNatClampNeg), .int 0, .ref ou]) (rest := []) M hK hI (c_La_addr l htr (xs ((0 : Int32) + (1 : Int32)).toNatClampNeg) ((((xs ((0 : Int32) + (2 : Int32)).toNatClampNeg)).toInt64 <<< ((32 : Int32).toInt64 &&& 63)) ||| (((xs ((0 : Int32) + (3 : Int32)).toNatClampNeg)).toInt64 &&& (4294967295 : Int64))) ((((xs ((0 : Int32) + (4 : Int32)).toNatClampNeg)).toInt64 <<< ((32 : Int32).toInt64 &&& 63)) ||| (((xs ((0 : Int32) + (5 : Int32)).toNatClampNeg)).toInt64 &&& (4294967295 : Int64))) (xs ((0 : Int32) + (6 : Int32)).toNatClampNeg) (xs ((0 : Int32) + (7 : Int32)).toNatClampNeg) 0 (Or.inl rfl) hok as ou (fun _ => 0) hU o arr fed sent places plain gained check hO hArr (hAs 0 (by decide))) k_La_add m_La_61 rfl hl.1 rfl (Nat.le_of_ble_eq_true rfl) ⟨rfl, rfl, ⟨Nat.le_of_ble_eq_true rfl, Nat.le_of_ble_eq_true rfl⟩, ⟨Nat.le_of_ble_eq_true rfl, Nat.le_of_ble_eq_true rfl⟩⟩ d_La_law_213 (fun x9 G10 H locs hw hI => ?_)
      obtain ⟨h_x9, hw⟩ := hw
      subst h_x9
      have hne1 : mo ≠ o := ne_x hMo hO (fun q => by cases q)
      have hne2 : ou ≠ o := (ne_x hO hU (fun q => by cases q)).symm
      obtain ⟨Gi, hGi⟩ : ∃ z, z = gw_up G o (kx (.inr (5, [.ref arr, .int 1, .ref fed, .ref sent, .ref places, .ref plain, .ref gained, .ref check]))) := ⟨_, rfl⟩
      rw [← hGi] at hw
      have hA := hA.fr hO (show gw_fr (fun b => b = o) G Gi from by rw [hGi]; exact gw_fr.up rfl)
      have hMo : Gi mo = some (kx (mo_ob q 0 0 0 0)) := by rw [hGi, gw_up_n hne1]; exact hMo
      have hU : Gi ou = some (kx (.inl (D.2 3, 1, .inr (.inl (fun _ => 0))))) := by rw [hGi, gw_up_n hne2]; exact hU
      have hne3 : mo ≠ ou := ne_x hMo hU (fun q => by cases q)
      have hA := hA.fu hU (show gw_fr (fun b => b = ou) Gi G10 from by rw [hw]; exact gw_fr.up rfl)
      have hMo2 : G10 mo = some (kx (mo_ob q 0 0 0 0)) := by rw [hw, gw_up_n hne3]; exact hMo
      have hU2 : G10 ou = some (kx (.inl (D.2 3, 1, .inr (.inl (vp_updL (fun _ => 0) (0 : Int32).toNatClampNeg 1))))) := by rw [hw]; exact gw_up_s
      refine lv_istore (lv' := [(5, .int 0), (4, .int 0), (3, .ref ou), (2, .ref mo), (1, .ref o), (0, .ref b)]) hx hb d_La_law_216 hl (by decide) rfl (fun ls hl => ?_)
      refine lv_aload_n hx hb d_La_law_218 rfl (lv_at hl 3 rfl) ?_
      refine lv_aload_n hx hb d_La_law_219 rfl (lv_at hl 5 rfl) ?_
      refine lv_iload hx hb d_La_law_220 (lv_at hl 1 rfl) ?_
      refine lv_iconst (v := 1) hx hb d_La_law_222 (by decide) ?_
      refine lv_iadd hx hb d_La_law_223 ?_
      refine va_sld hx hb hX hbl hbA hI.2 ix9.2.1 d_La_law_224 ?_
      refine lv_aload_n hx hb d_La_law_225 rfl (lv_at hl 5 rfl) ?_
      refine lv_iload hx hb d_La_law_226 (lv_at hl 1 rfl) ?_
      refine lv_iconst (v := 2) hx hb d_La_law_228 (by decide) ?_
      refine lv_iadd hx hb d_La_law_229 ?_
      refine va_sld hx hb hX hbl hbA hI.2 ix9.2.2.1 d_La_law_230 ?_
      refine lv_i2l hx hb d_La_law_231 rfl ?_
      refine lv_bipush (v := 32) hx hb d_La_law_232 (by decide) ?_
      refine lv_lshl hx hb d_La_law_234 rfl ?_
      refine lv_aload_n hx hb d_La_law_235 rfl (lv_at hl 5 rfl) ?_
      refine lv_iload hx hb d_La_law_236 (lv_at hl 1 rfl) ?_
      refine lv_iconst (v := 3) hx hb d_La_law_238 (by decide) ?_
      refine lv_iadd hx hb d_La_law_239 ?_
      refine va_sld hx hb hX hbl hbA hI.2 ix9.2.2.2.1 d_La_law_240 ?_
      refine lv_i2l hx hb d_La_law_241 rfl ?_
      refine lv_ldc2 (v := 4294967295) hx hb M.2.2.2.1 (M.2.2.2.2 _ o_La_59) d_La_law_242 ?_
      refine lv_land hx hb d_La_law_245 ?_
      refine lv_lor hx hb d_La_law_246 ?_
      refine lv_aload_n hx hb d_La_law_247 rfl (lv_at hl 5 rfl) ?_
      refine lv_iload hx hb d_La_law_248 (lv_at hl 1 rfl) ?_
      refine lv_iconst (v := 4) hx hb d_La_law_250 (by decide) ?_
      refine lv_iadd hx hb d_La_law_251 ?_
      refine va_sld hx hb hX hbl hbA hI.2 ix9.2.2.2.2.1 d_La_law_252 ?_
      refine lv_i2l hx hb d_La_law_253 rfl ?_
      refine lv_bipush (v := 32) hx hb d_La_law_254 (by decide) ?_
      refine lv_lshl hx hb d_La_law_256 rfl ?_
      refine lv_aload_n hx hb d_La_law_257 rfl (lv_at hl 5 rfl) ?_
      refine lv_iload hx hb d_La_law_258 (lv_at hl 1 rfl) ?_
      refine lv_iconst (v := 5) hx hb d_La_law_260 (by decide) ?_
      refine lv_iadd hx hb d_La_law_261 ?_
      refine va_sld hx hb hX hbl hbA hI.2 ix9.2.2.2.2.2.1 d_La_law_262 ?_
      refine lv_i2l hx hb d_La_law_263 rfl ?_
      refine lv_ldc2 (v := 4294967295) hx hb M.2.2.2.1 (M.2.2.2.2 _ o_La_59) d_La_law_264 ?_
      refine lv_land hx hb d_La_law_267 ?_
      refine lv_lor hx hb d_La_law_268 ?_
      refine lv_aload_n hx hb d_La_law_269 rfl (lv_at hl 5 rfl) ?_
      refine lv_iload hx hb d_La_law_270 (lv_at hl 1 rfl) ?_
      refine lv_bipush (v := 6) hx hb d_La_law_272 (by decide) ?_
      refine lv_iadd hx hb d_La_law_274 ?_
      refine va_sld hx hb hX hbl hbA hI.2 ix9.2.2.2.2.2.2.1 d_La_law_275 ?_
      refine lv_aload_n hx hb d_La_law_276 rfl (lv_at hl 5 rfl) ?_
      refine lv_iload hx hb d_La_law_277 (lv_at hl 1 rfl) ?_
      refine lv_bipush (v := 7) hx hb d_La_law_279 (by decide) ?_
      refine lv_iadd hx hb d_La_law_281 ?_
      refine va_sld hx hb hX hbl hbA hI.2 ix9.2.2.2.2.2.2.2.1 d_La_law_282 ?_
      refine lv_aload_n hx hb d_La_law_283 rfl (lv_at hl 5 rfl) ?_
      refine lv_iload hx hb d_La_law_284 (lv_at hl 1 rfl) ?_
      refine lv_bipush (v := 8) hx hb d_La_law_286 (by decide) ?_
      refine lv_iadd hx hb d_La_law_288 ?_
      refine va_sld hx hb hX hbl hbA hI.2 ix9.2.2.2.2.2.2.2.2 d_La_law_289 ?_
      refine lv_if_eq (tgt := 297) hx hb d_La_law_290 (by decide) (fun c_290 => ?_) (fun q9 => absurd c_204 q9)
      refine lv_iconst (v := 0) hx hb d_La_law_297 (by decide) ?_
      refine gw_Vi (As := [.int (xs ((0 : Int32) + (1 : Int32)).toNatClampNeg), .long (((((xs ((0 : Int32) + (2 : Int32)).toNatClampNeg)).toInt64) <<< (((32 : Int32)).toInt64 &&& 63)) ||| ((((xs ((0 : Int32) + (3 : Int32)).toNatClampNeg)).toInt64) &&& (4294967295 : Int64))), .long (((((xs ((0 : Int32) + (4 : Int32)).toNatClampNeg)).toInt64) <<< (((32 : Int32)).toInt64 &&& 63)) ||| ((((xs ((0 : Int32) + (5 : Int32)).toNatClampNeg)).toInt64) &&& (4294967295 : Int64))), .int (xs ((0 : Int32) + (6 : Int32)).toNatClampNeg), .int (xs ((0 : Int32) + (7 : Int32)).toNatClampNeg), .int 0]) (rest := []) M hK hI (c_Mo_add l (xs ((0 : Int32) + (1 : Int32)).toNatClampNeg) ((((xs ((0 : Int32) + (2 : Int32)).toNatClampNeg)).toInt64 <<< ((32 : Int32).toInt64 &&& 63)) ||| (((xs ((0 : Int32) + (3 : Int32)).toNatClampNeg)).toInt64 &&& (4294967295 : Int64))) ((((xs ((0 : Int32) + (4 : Int32)).toNatClampNeg)).toInt64 <<< ((32 : Int32).toInt64 &&& 63)) ||| (((xs ((0 : Int32) + (5 : Int32)).toNatClampNeg)).toInt64 &&& (4294967295 : Int64))) (xs ((0 : Int32) + (6 : Int32)).toNatClampNeg) (xs ((0 : Int32) + (7 : Int32)).toNatClampNeg) 0 (Or.inl rfl) mo q 0 0 0 0 hMo2 hA) k_Mo_add m_La_66 hMo2 (ci := 6) rfl (fun x hx => ⟨_, hx⟩) rfl hl.1 rfl (Nat.le_of_ble_eq_true rfl) ⟨rfl, rfl, ⟨Nat.le_of_ble_eq_true rfl, Nat.le_of_ble_eq_true rfl⟩, ⟨Nat.le_of_ble_eq_true rfl, Nat.le_of_ble_eq_true rfl⟩⟩ d_La_law_298 (fun x11 G12 H locs hw hI => ?_)
      obtain ⟨-, h_x11, hMo3, hfr⟩ := hw.resolve_left (fun h9 => h9.1.elim hok.1 (fun h8 => h8 hok.2))
      subst h_x11
      have hn1 : ou ≠ mo := (ne_x hMo2 hU2 (fun q => by cases q)).symm
      have hn2 : ou ≠ q 2 := ne_x hU2 (hA.2 2 rfl) (fun q => by obtain ⟨f, -, q⟩ := q; have h9 := congrArg (fun z => z.2.2) (Sum.inl.inj q); cases h9)
      have hU3 : G12 ou = some (kx (.inl (D.2 3, 1, .inr (.inl (vp_updL (fun _ => 0) (0 : Int32).toNatClampNeg 1))))) := hfr ou _ hU2 (fun h9 => h9.elim hn1 hn2)
      refine lv_istore (lv' := [(6, .int 1), (5, .int 0), (4, .int 0), (3, .ref ou), (2, .ref mo), (1, .ref o), (0, .ref b)]) hx hb d_La_law_301 hl (by decide) rfl (fun ls hl => ?_)
      refine lv_aload_n hx hb d_La_law_303 rfl (lv_at hl 4 rfl) ?_
      refine gw_Vi (As := []) (rest := []) M hK hI (c_Mo_thrown2 l mo q 0 0 0 0 hMo3) k_Mo_thrown m_La_67 hMo3 (ci := 6) rfl (fun x hx => ⟨_, hx⟩) rfl hl.1 rfl (Nat.le_of_ble_eq_true rfl) ⟨rfl, rfl, ⟨Nat.le_of_ble_eq_true rfl, Nat.le_of_ble_eq_true rfl⟩, ⟨Nat.le_of_ble_eq_true rfl, Nat.le_of_ble_eq_true rfl⟩⟩ d_La_law_304 (fun x13 G9 H locs hw hI => ?_)
      obtain ⟨h_x13, hw9⟩ := hw
      rw [hw9] at hI
      subst h_x13
      refine lv_iload hx hb d_La_law_307 (lv_at hl 1 rfl) ?_
      refine lv_icmp_eq (tgt := 314) hx hb d_La_law_309 (by decide) (fun c_309 => ?_) (fun q9 => absurd (by decide) q9)
      refine lv_iload hx hb d_La_law_314 (lv_at hl 1 rfl) ?_
      refine lv_if_ne (tgt := 338) hx hb d_La_law_316 (by decide) (fun q9 => absurd (by decide) q9) (fun c_316 => ?_)
      refine lv_aload_n hx hb d_La_law_319 rfl (lv_at hl 3 rfl) ?_
      refine lv_iconst (v := 0) hx hb d_La_law_320 (by decide) ?_
      refine gw_laldx M hK hI hU3 (vp_in_nI (n := 0) (by decide) (by decide)) d_La_law_321 ?_
      refine lv_iload hx hb d_La_law_322 (lv_at hl 0 rfl) ?_
      refine lv_if_eq (tgt := 331) hx hb d_La_law_324 (by decide) (fun q9 => absurd q9 (by decide)) (fun c_324 => ?_)
      refine lv_lconst (v := 1) hx hb d_La_law_327 (by decide) ?_
      refine lv_goto (tgt := 332) hx hb d_La_law_328 (by decide) ?_
      refine W.lcmp hx hb d_La_law_332 ?_
      refine lv_if_eq (tgt := 338) hx hb d_La_law_333 (by decide) (fun c_333 => ?_) (fun q9 => absurd ((lg_cmp_eq _ _).mpr (pk_uLs (f := fun _ => 0) (k := (0 : Int32).toNatClampNeg))) q9)
      refine lv_goto (tgt := 1141) hx hb d_La_law_338 (by decide) ?_
      refine W.widen (k := 400) (n := 80000) (Nat.le_of_ble_eq_true rfl) (Nat.le_of_ble_eq_true rfl) ?_
      exact law_tail C0 htr hK hI ls (lv_sub hl [2, 6] rfl)
  · refine lv_iconst (v := 1) hx hb d_La_law_207 (by decide) ?_
    refine lv_goto (tgt := 212) hx hb d_La_law_208 (by decide) ?_
    refine lv_aload_n hx hb d_La_law_212 rfl (lv_at hl 1 rfl) ?_
    by_cases hbad : (xs ((0 : Int32) + (1 : Int32)).toNatClampNeg) < 256 ∨ ¬ okW (xs ((0 : Int32) + (7 : Int32)).toNatClampNeg)
    · refine gw_Wi (As := [.ref o, .int (xs ((0 : Int32) + (1 : Int32)).toNatClampNeg), .long (((((xs ((0 : Int32) + (2 : Int32)).toNatClampNeg)).toInt64) <<< (((32 : Int32)).toInt64 &&& 63)) ||| ((((xs ((0 : Int32) + (3 : Int32)).toNatClampNeg)).toInt64) &&& (4294967295 : Int64))), .long (((((xs ((0 : Int32) + (4 : Int32)).toNatClampNeg)).toInt64) <<< (((32 : Int32)).toInt64 &&& 63)) ||| ((((xs ((0 : Int32) + (5 : Int32)).toNatClampNeg)).toInt64) &&& (4294967295 : Int64))), .int (xs ((0 : Int32) + (6 : Int32)).toNatClampNeg), .int (xs ((0 : Int32) + (7 : Int32)).toNatClampNeg), .int 1, .ref ou]) (rest := []) M hK hI (c_La_addt l htr (xs ((0 : Int32) + (1 : Int32)).toNatClampNeg) ((((xs ((0 : Int32) + (2 : Int32)).toNatClampNeg)).toInt64 <<< ((32 : Int32).toInt64 &&& 63)) ||| (((xs ((0 : Int32) + (3 : Int32)).toNatClampNeg)).toInt64 &&& (4294967295 : Int64))) ((((xs ((0 : Int32) + (4 : Int32)).toNatClampNeg)).toInt64 <<< ((32 : Int32).toInt64 &&& 63)) ||| (((xs ((0 : Int32) + (5 : Int32)).toNatClampNeg)).toInt64 &&& (4294967295 : Int64))) (xs ((0 : Int32) + (6 : Int32)).toNatClampNeg) (xs ((0 : Int32) + (7 : Int32)).toNatClampNeg) 1 ou hbad o arr fed sent places plain gained check hO) k_La_add m_La_61 rfl hl.1 rfl (Nat.le_of_ble_eq_true rfl) ⟨rfl, rfl, ⟨Nat.le_of_ble_eq_true rfl, Nat.le_of_ble_eq_true rfl⟩, ⟨Nat.le_of_ble_eq_true rfl, Nat.le_of_ble_eq_true rfl⟩⟩ d_La_law_213 (fun x14 G15 H locs hw hI => ?_)
      obtain ⟨h_x14, hw⟩ := hw
      subst h_x14
      rw [hw] at hI
      refine lv_istore (lv' := [(5, .int 1), (4, .int 0), (3, .ref ou), (2, .ref mo), (1, .ref o), (0, .ref b)]) hx hb d_La_law_216 hl (by decide) rfl (fun ls hl => ?_)
      refine lv_aload_n hx hb d_La_law_218 rfl (lv_at hl 3 rfl) ?_
      refine lv_aload_n hx hb d_La_law_219 rfl (lv_at hl 5 rfl) ?_
      refine lv_iload hx hb d_La_law_220 (lv_at hl 1 rfl) ?_
      refine lv_iconst (v := 1) hx hb d_La_law_222 (by decide) ?_
      refine lv_iadd hx hb d_La_law_223 ?_
      refine va_sld hx hb hX hbl hbA hI.2 ix9.2.1 d_La_law_224 ?_
      refine lv_aload_n hx hb d_La_law_225 rfl (lv_at hl 5 rfl) ?_
      refine lv_iload hx hb d_La_law_226 (lv_at hl 1 rfl) ?_
      refine lv_iconst (v := 2) hx hb d_La_law_228 (by decide) ?_
      refine lv_iadd hx hb d_La_law_229 ?_
      refine va_sld hx hb hX hbl hbA hI.2 ix9.2.2.1 d_La_law_230 ?_
      refine lv_i2l hx hb d_La_law_231 rfl ?_
      refine lv_bipush (v := 32) hx hb d_La_law_232 (by decide) ?_
      refine lv_lshl hx hb d_La_law_234 rfl ?_
      refine lv_aload_n hx hb d_La_law_235 rfl (lv_at hl 5 rfl) ?_
      refine lv_iload hx hb d_La_law_236 (lv_at hl 1 rfl) ?_
      refine lv_iconst (v := 3) hx hb d_La_law_238 (by decide) ?_
      refine lv_iadd hx hb d_La_law_239 ?_
      refine va_sld hx hb hX hbl hbA hI.2 ix9.2.2.2.1 d_La_law_240 ?_
      refine lv_i2l hx hb d_La_law_241 rfl ?_
      refine lv_ldc2 (v := 4294967295) hx hb M.2.2.2.1 (M.2.2.2.2 _ o_La_59) d_La_law_242 ?_
      refine lv_land hx hb d_La_law_245 ?_
      refine lv_lor hx hb d_La_law_246 ?_
      refine lv_aload_n hx hb d_La_law_247 rfl (lv_at hl 5 rfl) ?_
      refine lv_iload hx hb d_La_law_248 (lv_at hl 1 rfl) ?_
      refine lv_iconst (v := 4) hx hb d_La_law_250 (by decide) ?_
      refine lv_iadd hx hb d_La_law_251 ?_
      refine va_sld hx hb hX hbl hbA hI.2 ix9.2.2.2.2.1 d_La_law_252 ?_
      refine lv_i2l hx hb d_La_law_253 rfl ?_
      refine lv_bipush (v := 32) hx hb d_La_law_254 (by decide) ?_
      refine lv_lshl hx hb d_La_law_256 rfl ?_
      refine lv_aload_n hx hb d_La_law_257 rfl (lv_at hl 5 rfl) ?_
      refine lv_iload hx hb d_La_law_258 (lv_at hl 1 rfl) ?_
      refine lv_iconst (v := 5) hx hb d_La_law_260 (by decide) ?_
      refine lv_iadd hx hb d_La_law_261 ?_
      refine va_sld hx hb hX hbl hbA hI.2 ix9.2.2.2.2.2.1 d_La_law_262 ?_
      refine lv_i2l hx hb d_La_law_263 rfl ?_
      refine lv_ldc2 (v := 4294967295) hx hb M.2.2.2.1 (M.2.2.2.2 _ o_La_59) d_La_law_264 ?_
      refine lv_land hx hb d_La_law_267 ?_
      refine lv_lor hx hb d_La_law_268 ?_
      refine lv_aload_n hx hb d_La_law_269 rfl (lv_at hl 5 rfl) ?_
      refine lv_iload hx hb d_La_law_270 (lv_at hl 1 rfl) ?_
      refine lv_bipush (v := 6) hx hb d_La_law_272 (by decide) ?_
      refine lv_iadd hx hb d_La_law_274 ?_
      refine va_sld hx hb hX hbl hbA hI.2 ix9.2.2.2.2.2.2.1 d_La_law_275 ?_
      refine lv_aload_n hx hb d_La_law_276 rfl (lv_at hl 5 rfl) ?_
      refine lv_iload hx hb d_La_law_277 (lv_at hl 1 rfl) ?_
      refine lv_bipush (v := 7) hx hb d_La_law_279 (by decide) ?_
      refine lv_iadd hx hb d_La_law_281 ?_
      refine va_sld hx hb hX hbl hbA hI.2 ix9.2.2.2.2.2.2.2.1 d_La_law_282 ?_
      refine lv_aload_n hx hb d_La_law_283 rfl (lv_at hl 5 rfl) ?_
      refine lv_iload hx hb d_La_law_284 (lv_at hl 1 rfl) ?_
      refine lv_bipush (v := 8) hx hb d_La_law_286 (by decide) ?_
      refine lv_iadd hx hb d_La_law_288 ?_
      refine va_sld hx hb hX hbl hbA hI.2 ix9.2.2.2.2.2.2.2.2 d_La_law_289 ?_
      refine lv_if_eq (tgt := 297) hx hb d_La_law_290 (by decide) (fun q9 => absurd q9 c_204) (fun c_290 => ?_)
      refine lv_iconst (v := 1) hx hb d_La_law_293 (by decide) ?_
      refine lv_goto (tgt := 298) hx hb d_La_law_294 (by decide) ?_
      refine gw_Vi (As := [.int (xs ((0 : Int32) + (1 : Int32)).toNatClampNeg), .long (((((xs ((0 : Int32) + (2 : Int32)).toNatClampNeg)).toInt64) <<< (((32 : Int32)).toInt64 &&& 63)) ||| ((((xs ((0 : Int32) + (3 : Int32)).toNatClampNeg)).toInt64) &&& (4294967295 : Int64))), .long (((((xs ((0 : Int32) + (4 : Int32)).toNatClampNeg)).toInt64) <<< (((32 : Int32)).toInt64 &&& 63)) ||| ((((xs ((0 : Int32) + (5 : Int32)).toNatClampNeg)).toInt64) &&& (4294967295 : Int64))), .int (xs ((0 : Int32) + (6 : Int32)).toNatClampNeg), .int (xs ((0 : Int32) + (7 : Int32)).toNatClampNeg), .int 1]) (rest := []) M hK hI (c_Mo_add l (xs ((0 : Int32) + (1 : Int32)).toNatClampNeg) ((((xs ((0 : Int32) + (2 : Int32)).toNatClampNeg)).toInt64 <<< ((32 : Int32).toInt64 &&& 63)) ||| (((xs ((0 : Int32) + (3 : Int32)).toNatClampNeg)).toInt64 &&& (4294967295 : Int64))) ((((xs ((0 : Int32) + (4 : Int32)).toNatClampNeg)).toInt64 <<< ((32 : Int32).toInt64 &&& 63)) ||| (((xs ((0 : Int32) + (5 : Int32)).toNatClampNeg)).toInt64 &&& (4294967295 : Int64))) (xs ((0 : Int32) + (6 : Int32)).toNatClampNeg) (xs ((0 : Int32) + (7 : Int32)).toNatClampNeg) 1 (Or.inr rfl) mo q 0 0 0 0 hMo hA) k_Mo_add m_La_66 hMo (ci := 6) rfl (fun x hx => ⟨_, hx⟩) rfl hl.1 rfl (Nat.le_of_ble_eq_true rfl) ⟨rfl, rfl, ⟨Nat.le_of_ble_eq_true rfl, Nat.le_of_ble_eq_true rfl⟩, ⟨Nat.le_of_ble_eq_true rfl, Nat.le_of_ble_eq_true rfl⟩⟩ d_La_law_298 (fun x16 G17 H locs hw hI => ?_)
      have hw := (hw.resolve_right (fun h9 => hbad.elim h9.1.1 (fun h8 => h8 h9.1.2))).2
      have hA := hA.fr hMo (show gw_fr (fun b => b = mo) G G17 from by rw [hw]; exact gw_fr.up rfl)
      have hM18 : G17 mo = some (kx (mo_ob q 1 0 0 0)) := by rw [hw]; exact gw_up_s
      have hn19 : ou ≠ mo := (ne_x hMo hU (fun q => by cases q)).symm
      have hU20 : G17 ou = some (kx (.inl (D.2 3, 1, .inr (.inl (fun _ => 0))))) := by rw [hw, gw_up_n hn19]; exact hU
      refine lv_istore (lv' := [(6, .int x16), (5, .int 1), (4, .int 0), (3, .ref ou), (2, .ref mo), (1, .ref o), (0, .ref b)]) hx hb d_La_law_301 hl (by decide) rfl (fun ls hl => ?_)
      refine lv_aload_n hx hb d_La_law_303 rfl (lv_at hl 4 rfl) ?_
      refine gw_Vi (As := []) (rest := []) M hK hI (c_Mo_thrown l mo q 1 0 0 0 hM18 hA) k_Mo_thrown m_La_67 hM18 (ci := 6) rfl (fun x hx => ⟨_, hx⟩) rfl hl.1 rfl (Nat.le_of_ble_eq_true rfl) ⟨rfl, rfl, ⟨Nat.le_of_ble_eq_true rfl, Nat.le_of_ble_eq_true rfl⟩, ⟨Nat.le_of_ble_eq_true rfl, Nat.le_of_ble_eq_true rfl⟩⟩ d_La_law_304 (fun x21 G9 H locs hw hI => ?_)
      obtain ⟨h_x21, hw9⟩ := hw
      rw [hw9] at hI
      subst h_x21
      refine lv_iload hx hb d_La_law_307 (lv_at hl 1 rfl) ?_
      refine lv_icmp_eq (tgt := 314) hx hb d_La_law_309 (by decide) (fun c_309 => ?_) (fun q9 => absurd (by decide) q9)
      refine lv_iload hx hb d_La_law_314 (lv_at hl 1 rfl) ?_
      refine lv_if_ne (tgt := 338) hx hb d_La_law_316 (by decide) (fun c_316 => ?_) (fun q9 => absurd q9 (by decide))
      refine lv_goto (tgt := 1141) hx hb d_La_law_338 (by decide) ?_
      refine W.widen (k := 400) (n := 80000) (Nat.le_of_ble_eq_true rfl) (Nat.le_of_ble_eq_true rfl) ?_
      exact law_tail C0 htr hK hI ls (lv_sub hl [2, 6] rfl)
    · have hok : ¬ (xs ((0 : Int32) + (1 : Int32)).toNatClampNeg) < 256 ∧ okW (xs ((0 : Int32) + (7 : Int32)).toNatClampNeg) := ⟨fun h => hbad (Or.inl h), Classical.not_not.mp (fun h => hbad (Or.inr h))⟩
      refine gw_Wi (As := [.ref o, .int (xs ((0 : Int32) + (1 : Int32)).toNatClampNeg), .long (((((xs ((0 : Int32) + (2 : Int32)).toNatClampNeg)).toInt64) <<< (((32 : Int32)).toInt64 &&& 63)) ||| ((((xs ((0 : Int32) + (3 : Int32)).toNatClampNeg)).toInt64) &&& (4294967295 : Int64))), .long (((((xs ((0 : Int32) + (4 : Int32)).toNatClampNeg)).toInt64) <<< (((32 : Int32)).toInt64 &&& 63)) ||| ((((xs ((0 : Int32) + (5 : Int32)).toNatClampNeg)).toInt64) &&& (4294967295 : Int64))), .int (xs ((0 : Int32) + (6 : Int32)).toNatClampNeg), .int (xs ((0 : Int32) + (7 : Int32)).toNatClampNeg), .int 1, .ref ou]) (rest := []) M hK hI (c_La_addr l htr (xs ((0 : Int32) + (1 : Int32)).toNatClampNeg) ((((xs ((0 : Int32) + (2 : Int32)).toNatClampNeg)).toInt64 <<< ((32 : Int32).toInt64 &&& 63)) ||| (((xs ((0 : Int32) + (3 : Int32)).toNatClampNeg)).toInt64 &&& (4294967295 : Int64))) ((((xs ((0 : Int32) + (4 : Int32)).toNatClampNeg)).toInt64 <<< ((32 : Int32).toInt64 &&& 63)) ||| (((xs ((0 : Int32) + (5 : Int32)).toNatClampNeg)).toInt64 &&& (4294967295 : Int64))) (xs ((0 : Int32) + (6 : Int32)).toNatClampNeg) (xs ((0 : Int32) + (7 : Int32)).toNatClampNeg) 1 (Or.inr rfl) hok as ou (fun _ => 0) hU o arr fed sent places plain gained check hO hArr (hAs 0 (by decide))) k_La_add m_La_61 rfl hl.1 rfl (Nat.le_of_ble_eq_true rfl) ⟨rfl, rfl, ⟨Nat.le_of_ble_eq_true rfl, Nat.le_of_ble_eq_true rfl⟩, ⟨Nat.le_of_ble_eq_true rfl, Nat.le_of_ble_eq_true rfl⟩⟩ d_La_law_213 (fun x22 G23 H locs hw hI => ?_)
      obtain ⟨h_x22, hw⟩ := hw
      subst h_x22
      have hne1 : mo ≠ o := ne_x hMo hO (fun q => by cases q)
      have hne2 : ou ≠ o := (ne_x hO hU (fun q => by cases q)).symm
      obtain ⟨Gi, hGi⟩ : ∃ z, z = gw_up G o (kx (.inr (5, [.ref arr, .int 1, .ref fed, .ref sent, .ref places, .ref plain, .ref gained, .ref check]))) := ⟨_, rfl⟩
      rw [← hGi] at hw
      have hA := hA.fr hO (show gw_fr (fun b => b = o) G Gi from by rw [hGi]; exact gw_fr.up rfl)
      have hMo : Gi mo = some (kx (mo_ob q 0 0 0 0)) := by rw [hGi, gw_up_n hne1]; exact hMo
      have hU : Gi ou = some (kx (.inl (D.2 3, 1, .inr (.inl (fun _ => 0))))) := by rw [hGi, gw_up_n hne2]; exact hU
      have hne3 : mo ≠ ou := ne_x hMo hU (fun q => by cases q)
      have hA := hA.fu hU (show gw_fr (fun b => b = ou) Gi G23 from by rw [hw]; exact gw_fr.up rfl)
      have hMo2 : G23 mo = some (kx (mo_ob q 0 0 0 0)) := by rw [hw, gw_up_n hne3]; exact hMo
      have hU2 : G23 ou = some (kx (.inl (D.2 3, 1, .inr (.inl (vp_updL (fun _ => 0) (0 : Int32).toNatClampNeg 1))))) := by rw [hw]; exact gw_up_s
      refine lv_istore (lv' := [(5, .int 0), (4, .int 0), (3, .ref ou), (2, .ref mo), (1, .ref o), (0, .ref b)]) hx hb d_La_law_216 hl (by decide) rfl (fun ls hl => ?_)
      refine lv_aload_n hx hb d_La_law_218 rfl (lv_at hl 3 rfl) ?_
      refine lv_aload_n hx hb d_La_law_219 rfl (lv_at hl 5 rfl) ?_
      refine lv_iload hx hb d_La_law_220 (lv_at hl 1 rfl) ?_
      refine lv_iconst (v := 1) hx hb d_La_law_222 (by decide) ?_
      refine lv_iadd hx hb d_La_law_223 ?_
      refine va_sld hx hb hX hbl hbA hI.2 ix9.2.1 d_La_law_224 ?_
      refine lv_aload_n hx hb d_La_law_225 rfl (lv_at hl 5 rfl) ?_
      refine lv_iload hx hb d_La_law_226 (lv_at hl 1 rfl) ?_
      refine lv_iconst (v := 2) hx hb d_La_law_228 (by decide) ?_
      refine lv_iadd hx hb d_La_law_229 ?_
      refine va_sld hx hb hX hbl hbA hI.2 ix9.2.2.1 d_La_law_230 ?_
      refine lv_i2l hx hb d_La_law_231 rfl ?_
      refine lv_bipush (v := 32) hx hb d_La_law_232 (by decide) ?_
      refine lv_lshl hx hb d_La_law_234 rfl ?_
      refine lv_aload_n hx hb d_La_law_235 rfl (lv_at hl 5 rfl) ?_
      refine lv_iload hx hb d_La_law_236 (lv_at hl 1 rfl) ?_
      refine lv_iconst (v := 3) hx hb d_La_law_238 (by decide) ?_
      refine lv_iadd hx hb d_La_law_239 ?_
      refine va_sld hx hb hX hbl hbA hI.2 ix9.2.2.2.1 d_La_law_240 ?_
      refine lv_i2l hx hb d_La_law_241 rfl ?_
      refine lv_ldc2 (v := 4294967295) hx hb M.2.2.2.1 (M.2.2.2.2 _ o_La_59) d_La_law_242 ?_
      refine lv_land hx hb d_La_law_245 ?_
      refine lv_lor hx hb d_La_law_246 ?_
      refine lv_aload_n hx hb d_La_law_247 rfl (lv_at hl 5 rfl) ?_
      refine lv_iload hx hb d_La_law_248 (lv_at hl 1 rfl) ?_
      refine lv_iconst (v := 4) hx hb d_La_law_250 (by decide) ?_
      refine lv_iadd hx hb d_La_law_251 ?_
      refine va_sld hx hb hX hbl hbA hI.2 ix9.2.2.2.2.1 d_La_law_252 ?_
      refine lv_i2l hx hb d_La_law_253 rfl ?_
      refine lv_bipush (v := 32) hx hb d_La_law_254 (by decide) ?_
      refine lv_lshl hx hb d_La_law_256 rfl ?_
      refine lv_aload_n hx hb d_La_law_257 rfl (lv_at hl 5 rfl) ?_
      refine lv_iload hx hb d_La_law_258 (lv_at hl 1 rfl) ?_
      refine lv_iconst (v := 5) hx hb d_La_law_260 (by decide) ?_
      refine lv_iadd hx hb d_La_law_261 ?_
      refine va_sld hx hb hX hbl hbA hI.2 ix9.2.2.2.2.2.1 d_La_law_262 ?_
      refine lv_i2l hx hb d_La_law_263 rfl ?_
      refine lv_ldc2 (v := 4294967295) hx hb M.2.2.2.1 (M.2.2.2.2 _ o_La_59) d_La_law_264 ?_
      refine lv_land hx hb d_La_law_267 ?_
      refine lv_lor hx hb d_La_law_268 ?_
      refine lv_aload_n hx hb d_La_law_269 rfl (lv_at hl 5 rfl) ?_
      refine lv_iload hx hb d_La_law_270 (lv_at hl 1 rfl) ?_
      refine lv_bipush (v := 6) hx hb d_La_law_272 (by decide) ?_
      refine lv_iadd hx hb d_La_law_274 ?_
      refine va_sld hx hb hX hbl hbA hI.2 ix9.2.2.2.2.2.2.1 d_La_law_275 ?_
      refine lv_aload_n hx hb d_La_law_276 rfl (lv_at hl 5 rfl) ?_
      refine lv_iload hx hb d_La_law_277 (lv_at hl 1 rfl) ?_
      refine lv_bipush (v := 7) hx hb d_La_law_279 (by decide) ?_
      refine lv_iadd hx hb d_La_law_281 ?_
      refine va_sld hx hb hX hbl hbA hI.2 ix9.2.2.2.2.2.2.2.1 d_La_law_282 ?_
      refine lv_aload_n hx hb d_La_law_283 rfl (lv_at hl 5 rfl) ?_
      refine lv_iload hx hb d_La_law_284 (lv_at hl 1 rfl) ?_
      refine lv_bipush (v := 8) hx hb d_La_law_286 (by decide) ?_
      refine lv_iadd hx hb d_La_law_288 ?_
      refine va_sld hx hb hX hbl hbA hI.2 ix9.2.2.2.2.2.2.2.2 d_La_law_289 ?_
      refine lv_if_eq (tgt := 297) hx hb d_La_law_290 (by decide) (fun q9 => absurd q9 c_204) (fun c_290 => ?_)
      refine lv_iconst (v := 1) hx hb d_La_law_293 (by decide) ?_
      refine lv_goto (tgt := 298) hx hb d_La_law_294 (by decide) ?_
      refine gw_Vi (As := [.int (xs ((0 : Int32) + (1 : Int32)).toNatClampNeg), .long (((((xs ((0 : Int32) + (2 : Int32)).toNatClampNeg)).toInt64) <<< (((32 : Int32)).toInt64 &&& 63)) ||| ((((xs ((0 : Int32) + (3 : Int32)).toNatClampNeg)).toInt64) &&& (4294967295 : Int64))), .long (((((xs ((0 : Int32) + (4 : Int32)).toNatClampNeg)).toInt64) <<< (((32 : Int32)).toInt64 &&& 63)) ||| ((((xs ((0 : Int32) + (5 : Int32)).toNatClampNeg)).toInt64) &&& (4294967295 : Int64))), .int (xs ((0 : Int32) + (6 : Int32)).toNatClampNeg), .int (xs ((0 : Int32) + (7 : Int32)).toNatClampNeg), .int 1]) (rest := []) M hK hI (c_Mo_add l (xs ((0 : Int32) + (1 : Int32)).toNatClampNeg) ((((xs ((0 : Int32) + (2 : Int32)).toNatClampNeg)).toInt64 <<< ((32 : Int32).toInt64 &&& 63)) ||| (((xs ((0 : Int32) + (3 : Int32)).toNatClampNeg)).toInt64 &&& (4294967295 : Int64))) ((((xs ((0 : Int32) + (4 : Int32)).toNatClampNeg)).toInt64 <<< ((32 : Int32).toInt64 &&& 63)) ||| (((xs ((0 : Int32) + (5 : Int32)).toNatClampNeg)).toInt64 &&& (4294967295 : Int64))) (xs ((0 : Int32) + (6 : Int32)).toNatClampNeg) (xs ((0 : Int32) + (7 : Int32)).toNatClampNeg) 1 (Or.inr rfl) mo q 0 0 0 0 hMo2 hA) k_Mo_add m_La_66 hMo2 (ci := 6) rfl (fun x hx => ⟨_, hx⟩) rfl hl.1 rfl (Nat.le_of_ble_eq_true rfl) ⟨rfl, rfl, ⟨Nat.le_of_ble_eq_true rfl, Nat.le_of_ble_eq_true rfl⟩, ⟨Nat.le_of_ble_eq_true rfl, Nat.le_of_ble_eq_true rfl⟩⟩ d_La_law_298 (fun x24 G25 H locs hw hI => ?_)
      obtain ⟨-, h_x24, hMo3, hfr⟩ := hw.resolve_left (fun h9 => h9.1.elim hok.1 (fun h8 => h8 hok.2))
      subst h_x24
      have hn1 : ou ≠ mo := (ne_x hMo2 hU2 (fun q => by cases q)).symm
      have hn2 : ou ≠ q 2 := ne_x hU2 (hA.2 2 rfl) (fun q => by obtain ⟨f, -, q⟩ := q; have h9 := congrArg (fun z => z.2.2) (Sum.inl.inj q); cases h9)
      have hU3 : G25 ou = some (kx (.inl (D.2 3, 1, .inr (.inl (vp_updL (fun _ => 0) (0 : Int32).toNatClampNeg 1))))) := hfr ou _ hU2 (fun h9 => h9.elim hn1 hn2)
      refine lv_istore (lv' := [(6, .int 1), (5, .int 0), (4, .int 0), (3, .ref ou), (2, .ref mo), (1, .ref o), (0, .ref b)]) hx hb d_La_law_301 hl (by decide) rfl (fun ls hl => ?_)
      refine lv_aload_n hx hb d_La_law_303 rfl (lv_at hl 4 rfl) ?_
      refine gw_Vi (As := []) (rest := []) M hK hI (c_Mo_thrown2 l mo q 0 0 0 0 hMo3) k_Mo_thrown m_La_67 hMo3 (ci := 6) rfl (fun x hx => ⟨_, hx⟩) rfl hl.1 rfl (Nat.le_of_ble_eq_true rfl) ⟨rfl, rfl, ⟨Nat.le_of_ble_eq_true rfl, Nat.le_of_ble_eq_true rfl⟩, ⟨Nat.le_of_ble_eq_true rfl, Nat.le_of_ble_eq_true rfl⟩⟩ d_La_law_304 (fun x26 G9 H locs hw hI => ?_)
      obtain ⟨h_x26, hw9⟩ := hw
      rw [hw9] at hI
      subst h_x26
      refine lv_iload hx hb d_La_law_307 (lv_at hl 1 rfl) ?_
      refine lv_icmp_eq (tgt := 314) hx hb d_La_law_309 (by decide) (fun c_309 => ?_) (fun q9 => absurd (by decide) q9)
      refine lv_iload hx hb d_La_law_314 (lv_at hl 1 rfl) ?_
      refine lv_if_ne (tgt := 338) hx hb d_La_law_316 (by decide) (fun q9 => absurd (by decide) q9) (fun c_316 => ?_)
      refine lv_aload_n hx hb d_La_law_319 rfl (lv_at hl 3 rfl) ?_
      refine lv_iconst (v := 0) hx hb d_La_law_320 (by decide) ?_
      refine gw_laldx M hK hI hU3 (vp_in_nI (n := 0) (by decide) (by decide)) d_La_law_321 ?_
      refine lv_iload hx hb d_La_law_322 (lv_at hl 0 rfl) ?_
      refine lv_if_eq (tgt := 331) hx hb d_La_law_324 (by decide) (fun q9 => absurd q9 (by decide)) (fun c_324 => ?_)
      refine lv_lconst (v := 1) hx hb d_La_law_327 (by decide) ?_
      refine lv_goto (tgt := 332) hx hb d_La_law_328 (by decide) ?_
      refine W.lcmp hx hb d_La_law_332 ?_
      refine lv_if_eq (tgt := 338) hx hb d_La_law_333 (by decide) (fun c_333 => ?_) (fun q9 => absurd ((lg_cmp_eq _ _).mpr (pk_uLs (f := fun _ => 0) (k := (0 : Int32).toNatClampNeg))) q9)
      refine lv_goto (tgt := 1141) hx hb d_La_law_338 (by decide) ?_
      refine W.widen (k := 400) (n := 80000) (Nat.le_of_ble_eq_true rfl) (Nat.le_of_ble_eq_true rfl) ?_
      exact law_tail C0 htr hK hI ls (lv_sub hl [2, 6] rfl)

set_option maxHeartbeats 1000000 in
set_option maxRecDepth 100000 in
theorem law_head {L : Nat} (hL : L ≤ 9) {p : Program} {l : Launch} {e : Env} {s : State} {m : MethodId} {below : List Frame} {meth : Method} {c : Code} {b : Nat} {xs : Nat → Int32} (C0 : lw_At p s m meth c b L xs) (htr : l.stackTraces = false) {D : gw_D} (hK : gw_K D s.heap s) {G : gw_G} {H : Heap} {locs : List Loc} {o mo ou : Nat} {q : Nat → Nat} (hGp : gp_new D o G) (hMo : G mo = some (kx (mo_ob q 0 0 0 0))) (hA : mo_ok D tZ q G) (hU : G ou = some (kx (.inl (D.2 3, 1, .inr (.inl (fun _ => 0)))))) (hI : gw_I D s.heap G s.heap H locs) (ls : Array Slot) (hl : lv_has ls 8 [(4, .int 0), (3, .ref ou), (2, .ref mo), (1, .ref o), (0, .ref b)]) : W p l e room_1 s m #[Value.ref b] below meth c H locs 300 70000 (lw_Z below #[Value.ref b] s) (F0 m 23 ls []) := by
  obtain ⟨hx, hb, hr, hml, hown, hts, hX, hbl, hlocks, hgv⟩ := id C0
  have M : CallFix p m c b_La_law 8 s #[Value.ref b] tb R_La := ⟨hx, hb, hml, hown, fun w h => hts w (tb_in h)⟩
  have hbA : ¬ gw_A s.heap b := Nat.not_le.mpr hbl
  refine lv_iload hx hb d_La_law_23 (lv_at hl 0 rfl) ?_
  refine lv_aload_n hx hb d_La_law_25 rfl (lv_at hl 4 rfl) ?_
  refine va_slen hx hb hX hbl hbA hI.2 d_La_law_26 ?_
  refine lv_bipush (v := 9) hx hb d_La_law_27 (by decide) ?_
  refine lv_isub hx hb d_La_law_29 ?_
  rcases Nat.lt_or_ge L 9 with h9 | h9
  · refine lv_icmp_gt (tgt := 1147) hx hb d_La_law_30 (by decide) (fun c_30 => ?_) (fun q9 => absurd (pk_sneg (a := L) (b := 9) (by decide) h9) q9)
    refine lv_iconst (v := 1) hx hb d_La_law_1147 (by decide) ?_
    refine va_forget (fun q hq => hI.2.2.2 q hq) ?_
    refine W.widen (k := 600002) (n := 7302232) (Nat.le_of_ble_eq_true rfl) (Nat.le_of_ble_eq_true rfl) ?_
    exact lw_ret hx hb hr hlocks d_La_law_1148
  · have h99 : L = 9 := Nat.le_antisymm hL h9
    subst h99
    refine lv_icmp_gt (tgt := 1147) hx hb d_La_law_30 (by decide) (fun q9 => absurd q9 (by decide)) (fun c_30 => ?_)
    refine lv_aload_n hx hb d_La_law_33 rfl (lv_at hl 4 rfl) ?_
    refine lv_iload hx hb d_La_law_34 (lv_at hl 0 rfl) ?_
    refine va_sld hx hb hX hbl hbA hI.2 ix9.1 d_La_law_36 ?_
    refine lv_bipush (v := 31) hx hb d_La_law_37 (by decide) ?_
    refine lv_iand hx hb d_La_law_39 ?_
    refine lv_topi (fun v ev => ?_)
    obtain ⟨j, hj, hjv⟩ := pk_andE (xs (0 : Int32).toNatClampNeg) (m := 31) 5 rfl
    have hv : v = nI j := ev.trans hjv
    clear ev hjv
    subst hv
    match j, hj with
    | 0, _ => exact lv_tableIn (tgt := 132) hx hb d_La_law_40 (by decide) (by decide) (off := 92) rfl (by decide) (law_0 C0 htr hK hGp hMo hA hU hI ls hl)
    | 1, _ => exact lv_tableIn (tgt := 341) hx hb d_La_law_40 (by decide) (by decide) (off := 301) rfl (by decide) (law_1 C0 htr hK hGp hMo hA hU hI ls hl)
    | 2, _ => exact lv_tableIn (tgt := 366) hx hb d_La_law_40 (by decide) (by decide) (off := 326) rfl (by decide) (law_2 C0 htr hK hGp hMo hA hU hI ls hl)
    | 3, _ => exact lv_tableIn (tgt := 446) hx hb d_La_law_40 (by decide) (by decide) (off := 406) rfl (by decide) (law_3 C0 htr hK hGp hMo hA hU hI ls hl)
    | 4, _ => exact lv_tableIn (tgt := 514) hx hb d_La_law_40 (by decide) (by decide) (off := 474) rfl (by decide) (law_4 C0 htr hK hGp hMo hA hU hI ls hl)
    | 5, _ => exact lv_tableIn (tgt := 614) hx hb d_La_law_40 (by decide) (by decide) (off := 574) rfl (by decide) (law_5 C0 htr hK hGp hMo hA hU hI ls hl)
    | 6, _ => exact lv_tableIn (tgt := 627) hx hb d_La_law_40 (by decide) (by decide) (off := 587) rfl (by decide) (law_6 C0 htr hK hGp hMo hA hU hI ls hl)
    | 7, _ => exact lv_tableIn (tgt := 695) hx hb d_La_law_40 (by decide) (by decide) (off := 655) rfl (by decide) (law_7 C0 htr hK hGp hMo hA hU hI ls hl)
    | 8, _ => exact lv_tableIn (tgt := 708) hx hb d_La_law_40 (by decide) (by decide) (off := 668) rfl (by decide) (law_8 C0 htr hK hGp hMo hA hU hI ls hl)
    | 9, _ => exact lv_tableIn (tgt := 734) hx hb d_La_law_40 (by decide) (by decide) (off := 694) rfl (by decide) (law_9 C0 htr hK hGp hMo hA hU hI ls hl)
    | 10, _ => exact lv_tableIn (tgt := 802) hx hb d_La_law_40 (by decide) (by decide) (off := 762) rfl (by decide) (law_10 C0 htr hK hGp hMo hA hU hI ls hl)
    | 11, _ => exact lv_tableIn (tgt := 838) hx hb d_La_law_40 (by decide) (by decide) (off := 798) rfl (by decide) (law_11 C0 htr hK hGp hMo hA hU hI ls hl)
    | 12, _ => exact lv_tableIn (tgt := 874) hx hb d_La_law_40 (by decide) (by decide) (off := 834) rfl (by decide) (law_12 C0 htr hK hGp hMo hA hU hI ls hl)
    | 13, _ => exact lv_tableIn (tgt := 930) hx hb d_La_law_40 (by decide) (by decide) (off := 890) rfl (by decide) (law_13 C0 htr hK hGp hMo hA hU hI ls hl)
    | 14, _ => exact lv_tableIn (tgt := 943) hx hb d_La_law_40 (by decide) (by decide) (off := 903) rfl (by decide) (law_14 C0 htr hK hGp hMo hA hU hI ls hl)
    | 15, _ => exact lv_tableIn (tgt := 956) hx hb d_La_law_40 (by decide) (by decide) (off := 916) rfl (by decide) (law_15 C0 htr hK hGp hMo hA hU hI ls hl)
    | 16, _ => exact lv_tableIn (tgt := 982) hx hb d_La_law_40 (by decide) (by decide) (off := 942) rfl (by decide) (law_16 C0 htr hK hGp hMo hA hU hI ls hl)
    | 17, _ => exact lv_tableIn (tgt := 1049) hx hb d_La_law_40 (by decide) (by decide) (off := 1009) rfl (by decide) (law_17 C0 htr hK hGp hMo hA hU hI ls hl)
    | 18, _ => exact lv_tableIn (tgt := 1116) hx hb d_La_law_40 (by decide) (by decide) (off := 1076) rfl (by decide) (law_18 C0 htr hK hGp hMo hA hU hI ls hl)
    | j + 19, hj => exact lv_tableOut (tgt := 1141) hx hb d_La_law_40 (Or.inr (by rw [nI_toInt (by omega)]; omega)) (by decide) (W.widen (k := 400) (n := 80000) (Nat.le_of_ble_eq_true rfl) (Nat.le_of_ble_eq_true rfl) (law_tail C0 htr hK hI ls (lv_sub hl [0, 4] rfl)))
