def fup {α : Type} (f : Nat → α) (i : Nat) (v : α) : Nat → α := fun j => if j = i then v else f j
theorem fup_s {α : Type} {f : Nat → α} {i : Nat} {v : α} : fup f i v i = v := by simp [fup]
theorem fup_n {α : Type} {f : Nat → α} {i j : Nat} {v : α} (h : j ≠ i) : fup f i v j = f j := by simp [fup, h]
theorem fup_id {α : Type} {f : Nat → α} {i : Nat} : fup f i (f i) = f := by
  funext j
  by_cases h : j = i
  · subst h; exact fup_s
  · exact fup_n h
section CLU
variable {D : gw_D} {Hs H0 H : Heap} {locs : List Loc} {G : gw_G} {A : Nat → Nat → Nat} {pm : Nat → Nat} {cnt fd : Nat} {tt xt li : Nat → Int32} {la : Nat → Int64}
theorem gt_Ap {ci wi : Nat} {t x : Int32} {l : Int64} {n : Int32} : ∀ e, kAp ci wi t x l n e → gt e = 0 := fun x hx => by obtain ⟨u3, u5, u6, u9, v1, v2, q9⟩ := hx; rw [q9]; rfl
theorem gt_Ci {w : Nat} : ∀ e, kCi w e → gt e = 2 := fun x hx => by obtain ⟨u1, u2, q9⟩ := hx; rw [q9]; rfl
theorem gt_Wj {w : Nat} : ∀ e, kWj w e → gt e = 4 := fun x hx => by obtain ⟨u1, u2, h1, h2, q9⟩ := hx; rw [q9]; rfl
theorem gt_Ro {q n : Nat} : ∀ e, kRo q n e → gt e = 3 := fun x hx => by obtain ⟨u1, u2, h1, h2, q9⟩ := hx; rw [q9]; rfl
theorem gt_Ch : ∀ e, kCh e → gt e = 1 := fun x hx => by obtain ⟨u1, u2, q9⟩ := hx; rw [q9]; rfl
theorem gt_A {t n : Nat} {P : Int32 → Prop} : ∀ e, kA D t n P e → gt e = 100 := fun x hx => by obtain ⟨f, h, q9⟩ := hx; rw [q9]; rfl
theorem gt_L {n : Nat} {P : Int64 → Prop} : ∀ e, kL D n P e → gt e = 101 := fun x hx => by obtain ⟨f, h, q9⟩ := hx; rw [q9]; rfl
theorem gt_R {t n : Nat} {P : Nat → Nat → Prop} : ∀ e, kR D t n P e → gt e = 1000 + n := fun x hx => by obtain ⟨f, h, q9⟩ := hx; rw [q9]; rfl
theorem gt_Fe {q n : Nat} : ∀ e, kFe q n e → gt e = 3 := fun x hx => by rw [show x = _ from hx]; rfl
theorem gt_Gp {n : Nat} : ∀ e, kGp A n e → gt e = 5 := fun x hx => by rw [show x = _ from hx]; rfl
theorem cls_fix.up {a u : Nat} {K K' : va_E → Prop} (h : cls_fix D G A) (hI : gw_I D Hs G H0 H locs) (ha : G a = some K) (hK : ∀ e, K e → gt e = u) (h1 : u ≠ 1) (h4 : u ≠ 1008) (h5 : u ≠ 100) (hn : a ≠ A 3 0 ∧ a ≠ A 5 0 ∧ a ≠ A 6 0 ∧ ∀ j, j < 8 → A 17 j ≠ a) : cls_fix D (gw_up G a K') A := by
  have n1 : ∀ {b : Nat} {Kb : va_E → Prop} {v : Nat}, G b = some Kb → (∀ e, Kb e → gt e = v) → v ≠ u → gw_up G a K' b = some Kb := fun hb hv hvu => by rw [gw_up_n (gw_nec hI hb ha hv hK hvu)]; exact hb
  obtain ⟨⟨g1, g2, g3, g4, g5, g6, g7, g8, g9⟩, g10⟩ := h
  refine ⟨⟨n1 g1 gt_R (fun e => h4 e.symm), ?_, n1 g3 gt_A h5.symm, ?_, n1 g5 gt_A h5.symm, ?_, n1 g7 gt_A h5.symm, n1 g8 gt_Ch h1.symm, n1 g9 gt_A h5.symm⟩, fun j hj => ⟨?_, n1 (g10 j hj).2 gt_A h5.symm⟩⟩
  · rw [gw_up_n hn.1.symm]; exact g2
  · rw [gw_up_n hn.2.1.symm]; exact g4
  · rw [gw_up_n hn.2.2.1.symm]; exact g6
  · rw [gw_up_n (hn.2.2.2 j hj)]; exact (g10 j hj).1
theorem cls_as.up {a u : Nat} {K K' : va_E → Prop} (h : cls_as D G A tt xt li la) (hI : gw_I D Hs G H0 H locs) (ha : G a = some K) (hK : ∀ e, K e → gt e = u) (h0 : u ≠ 0) (h2 : u ≠ 2) (h4 : u ≠ 4) (h5 : u ≠ 100) : cls_as D (gw_up G a K') A tt xt li la := by
  have n1 : ∀ {b : Nat} {Kb : va_E → Prop} {v : Nat}, G b = some Kb → (∀ e, Kb e → gt e = v) → v ≠ u → gw_up G a K' b = some Kb := fun hb hv hvu => by rw [gw_up_n (gw_nec hI hb ha hv hK hvu)]; exact hb
  intro i hi
  obtain ⟨g1, g2, g3, g4, g5⟩ := h i hi
  exact ⟨n1 g1 gt_Ap h0.symm, n1 g2 gt_Ci h2.symm, n1 g3 gt_A h5.symm, n1 g4 gt_Wj h4.symm, n1 g5 gt_A h5.symm⟩
theorem cls.ro_ne (h : cls D G A pm cnt fd tt xt li la) (hI : gw_I D Hs G H0 H locs) {a u : Nat} {K : va_E → Prop} (ha : G a = some K) (hK : ∀ e, K e → gt e = u) (h3 : u ≠ 3) : a ≠ A 3 0 ∧ a ≠ A 5 0 ∧ a ≠ A 6 0 ∧ ∀ j, j < 8 → A 17 j ≠ a :=
  ⟨gw_nec hI ha h.sent hK gt_Ro h3, gw_nec hI ha h.plain hK gt_Ro h3, gw_nec hI ha h.gain hK gt_Ro h3, fun j hj => gw_nec hI (h.ro hj) ha gt_Ro hK h3.symm⟩
/-- an association is written -/
theorem cls.asup (h : cls D G A pm cnt fd tt xt li la) (hI : gw_I D Hs G H0 H locs) {i : Nat} (hi : i < 16) (t x n : Int32) (l : Int64) (hx : x = 0 ∨ x = 1) : cls D (gw_up G (A 12 i) (kAp (A 13 i) (A 15 i) t x l n)) A pm cnt fd (fup tt i t) (fup xt i x) (fup li i n) (fup la i l) := by
  have ha := h.as hi
  have n1 : ∀ {b : Nat} {Kb : va_E → Prop} {v : Nat}, G b = some Kb → (∀ e, Kb e → gt e = v) → v ≠ 0 → gw_up G (A 12 i) (kAp (A 13 i) (A 15 i) t x l n) b = some Kb := fun hb hv hvu => by rw [gw_up_n (gw_nec hI hb ha hv gt_Ap hvu)]; exact hb
  refine ⟨⟨n1 h.O gt_Gp (by decide), n1 h.arr gt_R (by decide), n1 h.fed gt_Fe (by decide)⟩, fun j hj => ?_, h.2.2.1.up hI ha gt_Ap (by decide) (by decide) (by decide) (h.ro_ne hI ha gt_Ap (by decide)), h.ap, ⟨h.c16, h.f200, h.p.2.2.1, h.p.2.2.2.1, fun j hj => ?_⟩⟩
  · refine ⟨?_, n1 (h.ci hj) gt_Ci (by decide), n1 (h.wo hj) gt_A (by decide), n1 (h.wi hj) gt_Wj (by decide), n1 (h.bi hj) gt_A (by decide)⟩
    by_cases hji : j = i
    · subst hji; rw [gw_up_s, fup_s, fup_s, fup_s, fup_s]
    · rw [gw_up_n (fun e => hji (h.ap.1 j i hj hi e)), fup_n hji, fup_n hji, fup_n hji, fup_n hji]; exact h.as hj
  · by_cases hji : j = i
    · subst hji; rw [fup_s]; exact hx
    · rw [fup_n hji]; exact h.p.2.2.2.2 j hj
/-- fed is written -/
theorem cls.fedup (h : cls D G A pm cnt fd tt xt li la) (hI : gw_I D Hs G H0 H locs) {n : Nat} (hn : n ≤ 200) : cls D (gw_up G (A 2 0) (kFe (A 8 0) n)) A pm cnt n tt xt li la := by
  have ha := h.fed
  have n1 : ∀ {b : Nat} {Kb : va_E → Prop} {v : Nat}, G b = some Kb → (∀ e, Kb e → gt e = v) → v ≠ 3 → gw_up G (A 2 0) (kFe (A 8 0) n) b = some Kb := fun hb hv hvu => by rw [gw_up_n (gw_nec hI hb ha hv gt_Fe hvu)]; exact hb
  exact ⟨⟨n1 h.O gt_Gp (by decide), n1 h.arr gt_R (by decide), gw_up_s⟩, h.2.1.up hI ha gt_Fe (by decide) (by decide) (by decide) (by decide), h.2.2.1.up hI ha gt_Fe (by decide) (by decide) (by decide) ⟨h.ap.2.1, h.ap.2.2.1, h.ap.2.2.2.1, h.ap.2.2.2.2⟩, h.ap, ⟨h.c16, hn, h.p.2.2.1, h.p.2.2.2.1, h.p.2.2.2.2⟩⟩
/-- the array and the count are written -/
theorem cls.arrup (h : cls D G A pm cnt fd tt xt li la) (hI : gw_I D Hs G H0 H locs) {p1 : Nat → Nat} {n : Nat} (hn : n ≤ 16) (hp : ∀ j, j < 16 → p1 j < 16) (hj : ∀ i j, i < 16 → j < 16 → p1 i = p1 j → i = j) : cls D (gw_up (gw_up G (A 1 0) (kR D 4 16 (fun j b => b = A 12 (p1 j)))) (A 0 0) (kGp A n)) A p1 n fd tt xt li la := by
  have n1 : ∀ {b : Nat} {Kb : va_E → Prop} {v : Nat}, G b = some Kb → (∀ e, Kb e → gt e = v) → v ≠ 1016 → v ≠ 5 → gw_up (gw_up G (A 1 0) (kR D 4 16 (fun j b => b = A 12 (p1 j)))) (A 0 0) (kGp A n) b = some Kb := fun hb hv hvu hv5 => by rw [gw_up_n (gw_nec hI hb h.O hv gt_Gp hv5), gw_up_n (gw_nec hI hb h.arr hv gt_R hvu)]; exact hb
  have hao : A 1 0 ≠ A 0 0 := gw_nec hI h.arr h.O gt_R gt_Gp (by decide)
  obtain ⟨-, g1, g2, g3, g4⟩ := id h
  obtain ⟨⟨f1, f2, f3, f4, f5, f6, f7, f8, f9⟩, f10⟩ := id g2
  refine ⟨⟨gw_up_s, by rw [gw_up_n hao]; exact gw_up_s, n1 h.fed gt_Fe (by decide) (by decide)⟩, fun i hi => ?_, ⟨⟨n1 f1 gt_R (by decide) (by decide), n1 f2 gt_Ro (by decide) (by decide), n1 f3 gt_A (by decide) (by decide), n1 f4 gt_Ro (by decide) (by decide), n1 f5 gt_A (by decide) (by decide), n1 f6 gt_Ro (by decide) (by decide), n1 f7 gt_A (by decide) (by decide), n1 f8 gt_Ch (by decide) (by decide), n1 f9 gt_A (by decide) (by decide)⟩, fun j hj => ⟨n1 (f10 j hj).1 gt_Ro (by decide) (by decide), n1 (f10 j hj).2 gt_A (by decide) (by decide)⟩⟩, g3, ⟨hn, h.f200, hp, hj, h.p.2.2.2.2⟩⟩
  exact ⟨n1 (h.as hi) gt_Ap (by decide) (by decide), n1 (h.ci hi) gt_Ci (by decide) (by decide), n1 (h.wo hi) gt_A (by decide) (by decide), n1 (h.wi hi) gt_Wj (by decide) (by decide), n1 (h.bi hi) gt_A (by decide) (by decide)⟩
end CLU

abbrev rm_Gp_size : Room := { frames := 0, cells := 0, slots := 0, locals := 0 }
set_option maxHeartbeats 4000000 in
set_option maxRecDepth 100000 in
theorem c_Gp_size (l : Launch) {D : gw_D} {Hs : Heap} {G : gw_G} (A : Nat → Nat → Nat) (pm : Nat → Nat) (cnt fd : Nat) (tt xt li : Nat → Int32) (la : Nat → Int64) (hC : cls D G A pm cnt fd tt xt li la)  : Met l y_Gp_size (Cond.code y_Gp_size b_Gp_size 1 (some .int) :: tb) rm_Gp_size (gw_Pc D Hs G [.ref (A 0 0)]) (gw_Qi D Hs (fun _ G1 => G1 = G)) 0 0 (gw_A Hs) := by
  refine gw_met (by decide) (Nat.le_of_ble_eq_true rfl) ?_
  intro p e s m args below meth c M hK hr hlo hin hI ls hl
  have hx := M.1
  have hb := M.2.1
  have hl : lv_has ls 1 [(0, .ref (A 0 0))] := hl
  refine lv_aload_n hx hb d_Gp_size_0 rfl (lv_at hl 0 rfl) ?_
  refine gw_get M hK hI hC.O i_Gp rfl 3 (by decide) f_Gp_28 rfl (Pv := fun v => v = .ref (A 3 0)) (fun x hx => ⟨_, _, hx, rfl, rfl⟩) d_Gp_size_1 (fun v hv => ?_)
  subst hv
  refine gw_get M hK hI hC.sent i_Ro rfl 1 (by decide) f_Gp_87 rfl (Pv := fun v => ∃ x9 : Int32, v = .int x9 ∧ (∃ k, k ≤ 236 ∧ x9 = nI k)) (fun x hx => by obtain ⟨u1, u2, h_u1, h_u2, q9⟩ := hx; exact ⟨_, _, q9, rfl, _, rfl, h_u1⟩) d_Gp_size_4 (fun v hv => ?_)
  obtain ⟨x1, rfl, h_x1⟩ := hv
  exact gw_iret M hr hlo hI d_Gp_size_7 rfl

abbrev rm_Gp_got : Room := { frames := 0, cells := 0, slots := 0, locals := 0 }
set_option maxHeartbeats 4000000 in
set_option maxRecDepth 100000 in
theorem c_Gp_got (l : Launch) {D : gw_D} {Hs : Heap} {G : gw_G} (A : Nat → Nat → Nat) (pm : Nat → Nat) (cnt fd : Nat) (tt xt li : Nat → Int32) (la : Nat → Int64) (hC : cls D G A pm cnt fd tt xt li la)  : Met l y_Gp_got (Cond.code y_Gp_got b_Gp_got 1 (some .int) :: tb) rm_Gp_got (gw_Pc D Hs G [.ref (A 0 0)]) (gw_Qi D Hs (fun _ G1 => G1 = G)) 0 0 (gw_A Hs) := by
  refine gw_met (by decide) (Nat.le_of_ble_eq_true rfl) ?_
  intro p e s m args below meth c M hK hr hlo hin hI ls hl
  have hx := M.1
  have hb := M.2.1
  have hl : lv_has ls 1 [(0, .ref (A 0 0))] := hl
  refine lv_aload_n hx hb d_Gp_got_0 rfl (lv_at hl 0 rfl) ?_
  refine gw_get M hK hI hC.O i_Gp rfl 6 (by decide) f_Gp_38 rfl (Pv := fun v => v = .ref (A 6 0)) (fun x hx => ⟨_, _, hx, rfl, rfl⟩) d_Gp_got_1 (fun v hv => ?_)
  subst hv
  refine gw_get M hK hI hC.gain i_Ro rfl 1 (by decide) f_Gp_87 rfl (Pv := fun v => ∃ x9 : Int32, v = .int x9 ∧ (∃ k, k ≤ 204 ∧ x9 = nI k)) (fun x hx => by obtain ⟨u1, u2, h_u1, h_u2, q9⟩ := hx; exact ⟨_, _, q9, rfl, _, rfl, h_u1⟩) d_Gp_got_4 (fun v hv => ?_)
  obtain ⟨x1, rfl, h_x1⟩ := hv
  exact gw_iret M hr hlo hI d_Gp_got_7 rfl

abbrev rm_Gp_packet : Room := { frames := 2, cells := 0, slots := 0, locals := 46 }
set_option maxHeartbeats 4000000 in
set_option maxRecDepth 100000 in
theorem c_Gp_packet (l : Launch) {D : gw_D} {Hs : Heap} {G : gw_G} (A : Nat → Nat → Nat) (pm : Nat → Nat) (cnt fd : Nat) (tt xt li : Nat → Int32) (la : Nat → Int64) (hC : cls D G A pm cnt fd tt xt li la) (i0 : Int32) : Met l y_Gp_packet (Cond.code y_Gp_packet b_Gp_packet 2 (some .long) :: tb) rm_Gp_packet (gw_Pc D Hs G [.ref (A 0 0), .int i0]) (gw_Ql D Hs (fun _ G1 => G1 = G)) 0 0 (gw_A Hs) := by
  refine gw_met (by decide) (Nat.le_of_ble_eq_true rfl) ?_
  intro p e s m args below meth c M hK hr hlo hin hI ls hl
  have hx := M.1
  have hb := M.2.1
  have hl : lv_has ls 2 [(0, .ref (A 0 0)), (1, .int i0)] := hl
  refine lv_aload_n hx hb d_Gp_packet_0 rfl (lv_at hl 0 rfl) ?_
  refine gw_get M hK hI hC.O i_Gp rfl 3 (by decide) f_Gp_28 rfl (Pv := fun v => v = .ref (A 3 0)) (fun x hx => ⟨_, _, hx, rfl, rfl⟩) d_Gp_packet_1 (fun v hv => ?_)
  subst hv
  refine lv_iload_n hx hb d_Gp_packet_4 rfl (lv_at hl 1 rfl) ?_
  refine gw_Vl (As := [.int i0]) (rest := []) M hK hI (c_Ro_eightFrom l i0 (A 3 0) (A 9 0) 236 (by decide) hC.sent isRw_Ro hC.sq) k_Ro_eightFrom m_Gp_125 hC.sent (ci := 3) rfl (fun x hx => by obtain ⟨u1, u2, h_u1, h_u2, q9⟩ := hx; exact ⟨_, q9⟩) rfl hl.1 rfl (Nat.le_of_ble_eq_true rfl) ⟨rfl, rfl, ⟨Nat.le_of_ble_eq_true rfl, Nat.le_of_ble_eq_true rfl⟩, ⟨Nat.le_of_ble_eq_true rfl, Nat.le_of_ble_eq_true rfl⟩⟩ d_Gp_packet_5 (fun x1 G9 H locs hw hI => ?_)
  rw [hw] at hI
  exact gw_lret M hr hlo hI d_Gp_packet_8 rfl

abbrev rm_Gp_data : Room := { frames := 2, cells := 0, slots := 0, locals := 46 }
set_option maxHeartbeats 4000000 in
set_option maxRecDepth 100000 in
theorem c_Gp_data (l : Launch) {D : gw_D} {Hs : Heap} {G : gw_G} (A : Nat → Nat → Nat) (pm : Nat → Nat) (cnt fd : Nat) (tt xt li : Nat → Int32) (la : Nat → Int64) (hC : cls D G A pm cnt fd tt xt li la) (i0 : Int32) : Met l y_Gp_data (Cond.code y_Gp_data b_Gp_data 2 (some .long) :: tb) rm_Gp_data (gw_Pc D Hs G [.ref (A 0 0), .int i0]) (gw_Ql D Hs (fun _ G1 => G1 = G)) 0 0 (gw_A Hs) := by
  refine gw_met (by decide) (Nat.le_of_ble_eq_true rfl) ?_
  intro p e s m args below meth c M hK hr hlo hin hI ls hl
  have hx := M.1
  have hb := M.2.1
  have hl : lv_has ls 2 [(0, .ref (A 0 0)), (1, .int i0)] := hl
  refine lv_aload_n hx hb d_Gp_data_0 rfl (lv_at hl 0 rfl) ?_
  refine gw_get M hK hI hC.O i_Gp rfl 6 (by decide) f_Gp_38 rfl (Pv := fun v => v = .ref (A 6 0)) (fun x hx => ⟨_, _, hx, rfl, rfl⟩) d_Gp_data_1 (fun v hv => ?_)
  subst hv
  refine lv_iload_n hx hb d_Gp_data_4 rfl (lv_at hl 1 rfl) ?_
  refine gw_Vl (As := [.int i0]) (rest := []) M hK hI (c_Ro_eightFrom l i0 (A 6 0) (A 11 0) 204 (by decide) hC.gain isRw_Ro hC.gq) k_Ro_eightFrom m_Gp_125 hC.gain (ci := 3) rfl (fun x hx => by obtain ⟨u1, u2, h_u1, h_u2, q9⟩ := hx; exact ⟨_, q9⟩) rfl hl.1 rfl (Nat.le_of_ble_eq_true rfl) ⟨rfl, rfl, ⟨Nat.le_of_ble_eq_true rfl, Nat.le_of_ble_eq_true rfl⟩, ⟨Nat.le_of_ble_eq_true rfl, Nat.le_of_ble_eq_true rfl⟩⟩ d_Gp_data_5 (fun x1 G9 H locs hw hI => ?_)
  rw [hw] at hI
  exact gw_lret M hr hlo hI d_Gp_data_8 rfl

abbrev rm_Gp_keep : Room := { frames := 3, cells := 0, slots := 0, locals := 67 }
set_option maxHeartbeats 4000000 in
set_option maxRecDepth 100000 in
theorem c_Gp_keep (l : Launch) {D : gw_D} {Hs : Heap} {G : gw_G} (A : Nat → Nat → Nat) (pm : Nat → Nat) (cnt fd : Nat) (tt xt li : Nat → Int32) (la : Nat → Int64) (hC : cls D G A pm cnt fd tt xt li la) (n1 : Int32) (hpl : okP n1) : Met l y_Gp_keep (Cond.code y_Gp_keep b_Gp_keep 2 none :: tb) rm_Gp_keep (gw_Pc D Hs G [.ref (A 0 0), .int n1]) (gw_Qv D Hs (fun G1 => G1 = G)) 0 0 (gw_A Hs) := by
  refine gw_met (by decide) (Nat.le_of_ble_eq_true rfl) ?_
  intro p e s m args below meth c M hK hr hlo hin hI ls hl
  have hx := M.1
  have hb := M.2.1
  have hl : lv_has ls 2 [(0, .ref (A 0 0)), (1, .int n1)] := hl
  obtain ⟨j, hj8, hj⟩ := hpl.n
  refine lv_iload_n hx hb d_Gp_keep_0 rfl (lv_at hl 1 rfl) ?_
  refine gp_S (As := [.int n1]) (rest := []) M hK hI (c_Gp_isPlace l n1) k_Gp_isPlace m_Gp_140 rfl hl.1 rfl (Nat.le_of_ble_eq_true rfl) ⟨rfl, rfl, ⟨Nat.le_of_ble_eq_true rfl, Nat.le_of_ble_eq_true rfl⟩, ⟨Nat.le_of_ble_eq_true rfl, Nat.le_of_ble_eq_true rfl⟩⟩ d_Gp_keep_1 (fun x1 h_x1 => ?_)
  have h_x1 := h_x1.1 hpl
  subst h_x1
  refine lv_if_ne (tgt := 15) hx hb d_Gp_keep_4 (by decide) (fun c_4 => ?_) (fun q9 => absurd q9 (by decide))
  refine lv_aload_n hx hb d_Gp_keep_15 rfl (lv_at hl 0 rfl) ?_
  refine gw_get M hK hI hC.O i_Gp rfl 4 (by decide) f_Gp_31 rfl (Pv := fun v => v = .ref (A 4 0)) (fun x hx => ⟨_, _, hx, rfl, rfl⟩) d_Gp_keep_16 (fun v hv => ?_)
  subst hv
  refine lv_iload_n hx hb d_Gp_keep_19 rfl (lv_at hl 1 rfl) ?_
  refine gw_aald M hK hI 5 rfl hC.pla (nb_in hj hj8) d_Gp_keep_20 (fun r2 h_r2 => ?_)
  rw [hj, nI_clamp (Nat.lt_trans hj8 (by decide))] at h_r2
  subst h_r2
  refine lv_aload_n hx hb d_Gp_keep_21 rfl (lv_at hl 0 rfl) ?_
  refine gw_get M hK hI hC.O i_Gp rfl 3 (by decide) f_Gp_28 rfl (Pv := fun v => v = .ref (A 3 0)) (fun x hx => ⟨_, _, hx, rfl, rfl⟩) d_Gp_keep_22 (fun v hv => ?_)
  subst hv
  refine gw_Vv (As := [.ref (A 3 0)]) (rest := []) M hK hI (c_Ro_become l (A 3 0) (A 9 0) 236 (by decide) hC.sent hC.sq (A 17 j) (A 18 j) 236 (by decide) (hC.ro hj8) (hC.rq hj8)) k_Ro_become m_Gp_143 (hC.ro hj8) (ci := 3) rfl (fun x hx => by obtain ⟨u1, u2, h_u1, h_u2, q9⟩ := hx; exact ⟨_, q9⟩) rfl hl.1 rfl (Nat.le_of_ble_eq_true rfl) ⟨rfl, rfl, ⟨Nat.le_of_ble_eq_true rfl, Nat.le_of_ble_eq_true rfl⟩, ⟨Nat.le_of_ble_eq_true rfl, Nat.le_of_ble_eq_true rfl⟩⟩ d_Gp_keep_25 (fun G9 H locs hw hI => ?_)
  rw [hw] at hI
  exact gw_vret M hr hlo hI d_Gp_keep_28 rfl

abbrev rm_Gp_bring : Room := { frames := 3, cells := 0, slots := 0, locals := 67 }
set_option maxHeartbeats 4000000 in
set_option maxRecDepth 100000 in
theorem c_Gp_bring (l : Launch) {D : gw_D} {Hs : Heap} {G : gw_G} (A : Nat → Nat → Nat) (pm : Nat → Nat) (cnt fd : Nat) (tt xt li : Nat → Int32) (la : Nat → Int64) (hC : cls D G A pm cnt fd tt xt li la) (n1 : Int32) (hpl : okP n1) : Met l y_Gp_bring (Cond.code y_Gp_bring b_Gp_bring 2 (some .int) :: tb) rm_Gp_bring (gw_Pc D Hs G [.ref (A 0 0), .int n1]) (gw_Qi D Hs (fun _ G1 => G1 = G)) 0 0 (gw_A Hs) := by
  refine gw_met (by decide) (Nat.le_of_ble_eq_true rfl) ?_
  intro p e s m args below meth c M hK hr hlo hin hI ls hl
  have hx := M.1
  have hb := M.2.1
  have hl : lv_has ls 2 [(0, .ref (A 0 0)), (1, .int n1)] := hl
  obtain ⟨j, hj8, hj⟩ := hpl.n
  refine lv_iload_n hx hb d_Gp_bring_0 rfl (lv_at hl 1 rfl) ?_
  refine gp_S (As := [.int n1]) (rest := []) M hK hI (c_Gp_isPlace l n1) k_Gp_isPlace m_Gp_140 rfl hl.1 rfl (Nat.le_of_ble_eq_true rfl) ⟨rfl, rfl, ⟨Nat.le_of_ble_eq_true rfl, Nat.le_of_ble_eq_true rfl⟩, ⟨Nat.le_of_ble_eq_true rfl, Nat.le_of_ble_eq_true rfl⟩⟩ d_Gp_bring_1 (fun x1 h_x1 => ?_)
  have h_x1 := h_x1.1 hpl
  subst h_x1
  refine lv_if_ne (tgt := 15) hx hb d_Gp_bring_4 (by decide) (fun c_4 => ?_) (fun q9 => absurd q9 (by decide))
  refine lv_aload_n hx hb d_Gp_bring_15 rfl (lv_at hl 0 rfl) ?_
  refine gw_get M hK hI hC.O i_Gp rfl 4 (by decide) f_Gp_31 rfl (Pv := fun v => v = .ref (A 4 0)) (fun x hx => ⟨_, _, hx, rfl, rfl⟩) d_Gp_bring_16 (fun v hv => ?_)
  subst hv
  refine lv_iload_n hx hb d_Gp_bring_19 rfl (lv_at hl 1 rfl) ?_
  refine gw_aald M hK hI 5 rfl hC.pla (nb_in hj hj8) d_Gp_bring_20 (fun r2 h_r2 => ?_)
  rw [hj, nI_clamp (Nat.lt_trans hj8 (by decide))] at h_r2
  subst h_r2
  refine gw_get M hK hI (hC.ro hj8) i_Ro rfl 2 (by decide) f_Gp_147 rfl (Pv := fun v => ∃ x9 : Int32, v = .int x9 ∧ (x9 = 0 ∨ x9 = 1)) (fun x hx => by obtain ⟨u1, u2, h_u1, h_u2, q9⟩ := hx; exact ⟨_, _, q9, rfl, _, rfl, h_u2⟩) d_Gp_bring_21 (fun v hv => ?_)
  obtain ⟨x3, rfl, h_x3⟩ := hv
  refine lv_if_ne (tgt := 29) hx hb d_Gp_bring_24 (by decide) (fun c_24 => ?_) (fun c_24 => ?_)
  · refine lv_aload_n hx hb d_Gp_bring_29 rfl (lv_at hl 0 rfl) ?_
    refine gw_get M hK hI hC.O i_Gp rfl 3 (by decide) f_Gp_28 rfl (Pv := fun v => v = .ref (A 3 0)) (fun x hx => ⟨_, _, hx, rfl, rfl⟩) d_Gp_bring_30 (fun v hv => ?_)
    subst hv
    refine lv_aload_n hx hb d_Gp_bring_33 rfl (lv_at hl 0 rfl) ?_
    refine gw_get M hK hI hC.O i_Gp rfl 4 (by decide) f_Gp_31 rfl (Pv := fun v => v = .ref (A 4 0)) (fun x hx => ⟨_, _, hx, rfl, rfl⟩) d_Gp_bring_34 (fun v hv => ?_)
    subst hv
    refine lv_iload_n hx hb d_Gp_bring_37 rfl (lv_at hl 1 rfl) ?_
    refine gw_aald M hK hI 5 rfl hC.pla (nb_in hj hj8) d_Gp_bring_38 (fun r4 h_r4 => ?_)
    rw [hj, nI_clamp (Nat.lt_trans hj8 (by decide))] at h_r4
    subst h_r4
    refine gw_Vv (As := [.ref (A 17 j)]) (rest := []) M hK hI (c_Ro_become l (A 17 j) (A 18 j) 236 (by decide) (hC.ro hj8) (hC.rq hj8) (A 3 0) (A 9 0) 236 (by decide) hC.sent hC.sq) k_Ro_become m_Gp_143 hC.sent (ci := 3) rfl (fun x hx => by obtain ⟨u1, u2, h_u1, h_u2, q9⟩ := hx; exact ⟨_, q9⟩) rfl hl.1 rfl (Nat.le_of_ble_eq_true rfl) ⟨rfl, rfl, ⟨Nat.le_of_ble_eq_true rfl, Nat.le_of_ble_eq_true rfl⟩, ⟨Nat.le_of_ble_eq_true rfl, Nat.le_of_ble_eq_true rfl⟩⟩ d_Gp_bring_39 (fun G9 H locs hw hI => ?_)
    rw [hw] at hI
    refine lv_aload_n hx hb d_Gp_bring_42 rfl (lv_at hl 0 rfl) ?_
    refine gw_get M hK hI hC.O i_Gp rfl 3 (by decide) f_Gp_28 rfl (Pv := fun v => v = .ref (A 3 0)) (fun x hx => ⟨_, _, hx, rfl, rfl⟩) d_Gp_bring_43 (fun v hv => ?_)
    subst hv
    refine gw_get M hK hI hC.sent i_Ro rfl 1 (by decide) f_Gp_87 rfl (Pv := fun v => ∃ x9 : Int32, v = .int x9 ∧ (∃ k, k ≤ 236 ∧ x9 = nI k)) (fun x hx => by obtain ⟨u1, u2, h_u1, h_u2, q9⟩ := hx; exact ⟨_, _, q9, rfl, _, rfl, h_u1⟩) d_Gp_bring_46 (fun v hv => ?_)
    obtain ⟨x6, rfl, h_x6⟩ := hv
    exact gw_iret M hr hlo hI d_Gp_bring_49 rfl
  · refine lv_iconst (v := (-1)) hx hb d_Gp_bring_27 (by decide) ?_
    exact gw_iret M hr hlo hI d_Gp_bring_28 rfl

theorem nI_nn {k : Nat} (h : k < 2 ^ 31) : ¬ nI k < 0 := fun q => by
  rw [Int32.lt_iff_toInt_lt, nI_toInt h] at q
  have e0 : (0 : Int32).toInt = 0 := rfl
  omega
theorem pk_nin {a b : Nat} (ha : a < 2 ^ 31) (hb : b < 2 ^ 31) (h : nI a = nI b) : a = b := by
  have h1 := congrArg Int32.toInt h
  rw [nI_toInt ha, nI_toInt hb] at h1
  omega

abbrev rm_Gp_name : Room := { frames := 0, cells := 0, slots := 0, locals := 0 }
set_option maxHeartbeats 4000000 in
set_option maxRecDepth 100000 in
theorem c_Gp_name (l : Launch) {D : gw_D} {Hs : Heap} {G : gw_G} (A : Nat → Nat → Nat) (pm : Nat → Nat) (cnt fd : Nat) (tt xt li : Nat → Int32) (la : Nat → Int64) (hC : cls D G A pm cnt fd tt xt li la) (n1 : Int32) : Met l y_Gp_name (Cond.code y_Gp_name b_Gp_name 2 (some .int) :: tb) rm_Gp_name (gw_Pc D Hs G [.ref (A 0 0), .int n1]) (gw_Qi D Hs (fun r G1 => (∀ k, k < cnt → n1 = nI k → r = tt (pm k)) ∧ (¬ (∃ k, k < cnt ∧ n1 = nI k) → r = -1) ∧ G1 = G)) 0 0 (gw_A Hs) := by
  refine gw_met (by decide) (Nat.le_of_ble_eq_true rfl) ?_
  intro p e s m args below meth c M hK hr hlo hin hI ls hl
  have hx := M.1
  have hb := M.2.1
  have hl : lv_has ls 2 [(0, .ref (A 0 0)), (1, .int n1)] := hl
  refine lv_iload_n hx hb d_Gp_name_0 rfl (lv_at hl 1 rfl) ?_
  refine lv_if_lt (tgt := 24) hx hb d_Gp_name_1 (by decide) (fun c_1 => ?_) (fun c_1 => ?_)
  · have hw1 := c_1
    refine lv_iconst (v := (-1)) hx hb d_Gp_name_24 (by decide) ?_
    exact gw_iret M hr hlo hI d_Gp_name_25 (⟨fun k hk q9 => absurd q9 (fun q8 => (fun k hk q9 => absurd c_1 (by rw [q9]; exact nI_nn (Nat.lt_of_lt_of_le hk (Nat.le_trans hC.c16 (by decide))))) k hk q8), fun _ => rfl, rfl⟩)
  · refine lv_iload_n hx hb d_Gp_name_4 rfl (lv_at hl 1 rfl) ?_
    refine lv_aload_n hx hb d_Gp_name_5 rfl (lv_at hl 0 rfl) ?_
    refine gw_get M hK hI hC.O i_Gp rfl 1 (by decide) f_Gp_15 rfl (Pv := fun v => v = .int (nI cnt)) (fun x hx => ⟨_, _, hx, rfl, rfl⟩) d_Gp_name_6 (fun v hv => ?_)
    subst hv
    refine lv_icmp_ge (tgt := 24) hx hb d_Gp_name_9 (by decide) (fun c_9 => ?_) (fun c_9 => ?_)
    · have hw1 := c_9
      refine lv_iconst (v := (-1)) hx hb d_Gp_name_24 (by decide) ?_
      exact gw_iret M hr hlo hI d_Gp_name_25 (⟨fun k hk q9 => absurd q9 (fun q8 => (fun k hk q9 => absurd (nb_ge q9 c_9 (Nat.lt_of_le_of_lt hC.c16 (by decide)) (Nat.lt_of_lt_of_le hk (Nat.le_trans hC.c16 (by decide)))) (Nat.not_le.mpr hk)) k hk q8), fun _ => rfl, rfl⟩)
    · obtain ⟨k, hk31, hk⟩ := nI_of c_1
      have hlc : k < cnt := nb_lt hk c_9 (Nat.lt_of_le_of_lt hC.c16 (by decide)) hk31
      have hl16 : k < 16 := Nat.lt_of_lt_of_le hlc hC.c16
      refine lv_aload_n hx hb d_Gp_name_12 rfl (lv_at hl 0 rfl) ?_
      refine gw_get M hK hI hC.O i_Gp rfl 0 (by decide) f_Gp_11 rfl (Pv := fun v => v = .ref (A 1 0)) (fun x hx => ⟨_, _, hx, rfl, rfl⟩) d_Gp_name_13 (fun v hv => ?_)
      subst hv
      refine lv_iload_n hx hb d_Gp_name_16 rfl (lv_at hl 1 rfl) ?_
      refine gw_aald M hK hI 4 rfl hC.arr (nb_in hk hl16) d_Gp_name_17 (fun r1 h_r1 => ?_)
      rw [hk, nI_clamp hk31] at h_r1
      subst h_r1
      refine gw_get M hK hI (hC.as (hC.pmb hl16)) i_As rfl 2 (by decide) f_Gp_202 rfl (Pv := fun v => v = .int (tt (pm k))) (fun x hx => by obtain ⟨u3, u5, u6, u9, v1, v2, q9⟩ := hx; exact ⟨_, _, q9, rfl, rfl⟩) d_Gp_name_18 (fun v hv => ?_)
      subst hv
      refine lv_goto (tgt := 25) hx hb d_Gp_name_21 (by decide) ?_
      exact gw_iret M hr hlo hI d_Gp_name_25 (⟨fun k1 hk1 q9 => by rw [pk_nin (Nat.lt_of_lt_of_le hk1 (Nat.le_trans hC.c16 (by decide))) hk31 (q9.symm.trans hk)], fun h9 => absurd ⟨k, hlc, hk⟩ h9, rfl⟩)

abbrev rm_Gp_hurry : Room := { frames := 2, cells := 0, slots := 0, locals := 44 }
set_option maxHeartbeats 4000000 in
set_option maxRecDepth 100000 in
theorem c_Gp_hurry (l : Launch) {D : gw_D} {Hs : Heap} {G : gw_G} (A : Nat → Nat → Nat) (pm : Nat → Nat) (cnt fd : Nat) (tt xt li : Nat → Int32) (la : Nat → Int64) (hC : cls D G A pm cnt fd tt xt li la) (n1 : Int32) (n2 : Int64) (kp : Nat) (hkp : isPl (fun j => tt (pm j)) cnt n1 kp) (hat : kp < cnt ∧ tt (pm kp) = n1)  (hok : ¬ (n2 < la (pm kp) ∨ gre (xt (pm kp)) < n2)) : Met l y_Gp_hurry (Cond.code y_Gp_hurry b_Gp_hurry 5 none :: tb) rm_Gp_hurry (gw_Pc D Hs G [.ref (A 0 0), .int n1, .long n2]) (gw_Qv D Hs (fun G1 => G1 = gw_up G (A 12 (pm kp)) (kAp (A 13 (pm kp)) (A 15 (pm kp)) (tt (pm kp)) (xt (pm kp)) n2 (li (pm kp))))) 0 0 (gw_A Hs) := by
  refine gw_met (by decide) (Nat.le_of_ble_eq_true rfl) ?_
  intro p e s m args below meth c M hK hr hlo hin hI ls hl
  have hx := M.1
  have hb := M.2.1
  have hl : lv_has ls 5 [(0, .ref (A 0 0)), (1, .int n1), (2, .long n2)] := hl
  have hi : pm kp < 16 := hC.pmb (Nat.lt_of_lt_of_le hat.1 hC.c16)
  have hI0 := hI
  refine lv_aload_n hx hb d_Gp_hurry_0 rfl (lv_at hl 0 rfl) ?_
  refine lv_iload_n hx hb d_Gp_hurry_1 rfl (lv_at hl 1 rfl) ?_
  refine gp_Vr (As := [.int n1]) (rest := []) M hK hI (c_Gp_known l A pm cnt fd tt xt li la hC n1 kp hkp hat) k_Gp_known m_Gp_72 hC.O (ci := 5) rfl (fun x hx => ⟨_, hx⟩) rfl hl.1 rfl (Nat.le_of_ble_eq_true rfl) ⟨rfl, rfl, ⟨Nat.le_of_ble_eq_true rfl, Nat.le_of_ble_eq_true rfl⟩, ⟨Nat.le_of_ble_eq_true rfl, Nat.le_of_ble_eq_true rfl⟩⟩ d_Gp_hurry_2 (fun x1 h_x1 => ?_)
  subst h_x1
  refine lv_astore (lv' := [(4, .ref (A 12 (pm kp))), (0, .ref (A 0 0)), (1, .int n1), (2, .long n2)]) hx hb d_Gp_hurry_5 hl (by decide) rfl (fun ls hl => ?_)
  refine lv_lload_n hx hb d_Gp_hurry_7 rfl (lv_at hl 3 rfl) ?_
  refine lv_aload hx hb d_Gp_hurry_8 (lv_at hl 0 rfl) ?_
  refine gw_get M hK hI (hC.as hi) i_As rfl 7 (by decide) f_Gp_76 rfl (Pv := fun v => v = .long (la (pm kp))) (fun x hx => by obtain ⟨u3, u5, u6, u9, v1, v2, q9⟩ := hx; exact ⟨_, _, q9, rfl, rfl⟩) d_Gp_hurry_10 (fun v hv => ?_)
  subst hv
  refine W.lcmp hx hb d_Gp_hurry_13 ?_
  refine lv_if_lt (tgt := 27) hx hb d_Gp_hurry_14 (by decide) (fun q9 => absurd q9 (fun q9 => hok (Or.inl ((lg_cmp_lt _ _).mp q9)))) (fun c_14 => ?_)
  refine lv_lload_n hx hb d_Gp_hurry_17 rfl (lv_at hl 3 rfl) ?_
  refine lv_aload hx hb d_Gp_hurry_18 (lv_at hl 0 rfl) ?_
  refine gp_Vl (As := []) (rest := [.long n2]) M hK hI (c_As_greatestp l (A 12 (pm kp)) (A 13 (pm kp)) (A 15 (pm kp)) (tt (pm kp)) (xt (pm kp)) (la (pm kp)) (li (pm kp)) (hC.as hi)) k_As_greatest m_Gp_80 (hC.as hi) (ci := 0) rfl (fun x hx => by obtain ⟨u3, u5, u6, u9, v1, v2, q9⟩ := hx; exact ⟨_, q9⟩) rfl hl.1 rfl (Nat.le_of_ble_eq_true rfl) ⟨rfl, rfl, ⟨Nat.le_of_ble_eq_true rfl, Nat.le_of_ble_eq_true rfl⟩, ⟨Nat.le_of_ble_eq_true rfl, Nat.le_of_ble_eq_true rfl⟩⟩ d_Gp_hurry_20 (fun x2 h_x2 => ?_)
  subst h_x2
  refine W.lcmp hx hb d_Gp_hurry_23 ?_
  refine lv_if_le (tgt := 35) hx hb d_Gp_hurry_24 (by decide) (fun c_24 => ?_) (fun q9 => absurd ((lg_cmp_le _ _).mpr (Int64.not_lt.mp (fun q9 => hok (Or.inr q9)))) q9)
  refine lv_aload hx hb d_Gp_hurry_35 (lv_at hl 0 rfl) ?_
  refine lv_lload_n hx hb d_Gp_hurry_37 rfl (lv_at hl 3 rfl) ?_
  refine gw_put M hK hI (hC.as hi) i_As t_As tk_As n_As rfl 7 (by decide) f_Gp_76 rfl rfl rfl (kAp (A 13 (pm kp)) (A 15 (pm kp)) (tt (pm kp)) (xt (pm kp)) n2 (li (pm kp))) (fun x hx => by obtain ⟨u3, u5, u6, u9, v1, v2, q9⟩ := hx; exact ⟨_, q9, Nat.le_of_ble_eq_true rfl, ⟨u3, u5, u6, u9, v1, v2, rfl⟩⟩) d_Gp_hurry_38 (fun H locs hI => ?_)
  obtain ⟨G3, hE_G3⟩ : ∃ z9, gw_up G (A 12 (pm kp)) (kAp (A 13 (pm kp)) (A 15 (pm kp)) (tt (pm kp)) (xt (pm kp)) n2 (li (pm kp))) = z9 := ⟨_, rfl⟩
  rw [hE_G3] at hI
  have hG5 : G3 (A 12 (pm kp)) = some (kAp (A 13 (pm kp)) (A 15 (pm kp)) (tt (pm kp)) (xt (pm kp)) n2 (li (pm kp))) := by rw [← hE_G3]; exact gw_up_s
  have hs4 : gw_fr (fun b => b = (A 12 (pm kp))) G G3 := by rw [← hE_G3]; exact gw_fr.up rfl
  exact gw_vret M hr hlo hI d_Gp_hurry_41 (by first | rfl | exact hE_G3.symm | (rw [← hE_G3]; simp only [gw_up_up]) | (simp only [← hE_G3, gw_up_up]))

abbrev rm_Gp_life : Room := { frames := 2, cells := 0, slots := 0, locals := 44 }
set_option maxHeartbeats 4000000 in
set_option maxRecDepth 100000 in
theorem c_Gp_life (l : Launch) {D : gw_D} {Hs : Heap} {G : gw_G} (A : Nat → Nat → Nat) (pm : Nat → Nat) (cnt fd : Nat) (tt xt li : Nat → Int32) (la : Nat → Int64) (hC : cls D G A pm cnt fd tt xt li la) (n1 n2 : Int32) (kp : Nat) (hkp : isPl (fun j => tt (pm j)) cnt n1 kp) (hat : kp < cnt ∧ tt (pm kp) = n1)  (hok : ¬ n2 < 0) : Met l y_Gp_life (Cond.code y_Gp_life b_Gp_life 5 (some .int) :: tb) rm_Gp_life (gw_Pc D Hs G [.ref (A 0 0), .int n1, .int n2]) (gw_Qi D Hs (fun r G1 => r = li (pm kp) ∧ G1 = gw_up G (A 12 (pm kp)) (kAp (A 13 (pm kp)) (A 15 (pm kp)) (tt (pm kp)) (xt (pm kp)) (la (pm kp)) n2))) 0 0 (gw_A Hs) := by
  refine gw_met (by decide) (Nat.le_of_ble_eq_true rfl) ?_
  intro p e s m args below meth c M hK hr hlo hin hI ls hl
  have hx := M.1
  have hb := M.2.1
  have hl : lv_has ls 5 [(0, .ref (A 0 0)), (1, .int n1), (2, .int n2)] := hl
  have hi : pm kp < 16 := hC.pmb (Nat.lt_of_lt_of_le hat.1 hC.c16)
  have hI0 := hI
  refine lv_aload_n hx hb d_Gp_life_0 rfl (lv_at hl 0 rfl) ?_
  refine lv_iload_n hx hb d_Gp_life_1 rfl (lv_at hl 1 rfl) ?_
  refine gp_Vr (As := [.int n1]) (rest := []) M hK hI (c_Gp_known l A pm cnt fd tt xt li la hC n1 kp hkp hat) k_Gp_known m_Gp_72 hC.O (ci := 5) rfl (fun x hx => ⟨_, hx⟩) rfl hl.1 rfl (Nat.le_of_ble_eq_true rfl) ⟨rfl, rfl, ⟨Nat.le_of_ble_eq_true rfl, Nat.le_of_ble_eq_true rfl⟩, ⟨Nat.le_of_ble_eq_true rfl, Nat.le_of_ble_eq_true rfl⟩⟩ d_Gp_life_2 (fun x1 h_x1 => ?_)
  subst h_x1
  refine lv_astore_n (lv' := [(3, .ref (A 12 (pm kp))), (0, .ref (A 0 0)), (1, .int n1), (2, .int n2)]) hx hb d_Gp_life_5 rfl hl (by decide) rfl (fun ls hl => ?_)
  refine lv_iload_n hx hb d_Gp_life_6 rfl (lv_at hl 3 rfl) ?_
  refine lv_if_ge (tgt := 18) hx hb d_Gp_life_7 (by decide) (fun c_7 => ?_) (fun q9 => absurd (Int32.not_lt.mp hok) q9)
  refine lv_aload_n hx hb d_Gp_life_18 rfl (lv_at hl 0 rfl) ?_
  refine gw_get M hK hI (hC.as hi) i_As rfl 8 (by decide) f_Gp_84 rfl (Pv := fun v => v = .int (li (pm kp))) (fun x hx => by obtain ⟨u3, u5, u6, u9, v1, v2, q9⟩ := hx; exact ⟨_, _, q9, rfl, rfl⟩) d_Gp_life_19 (fun v hv => ?_)
  subst hv
  refine lv_topi (fun x2 e_x2 => ?_)
  refine lv_istore (lv' := [(4, .int x2), (3, .ref (A 12 (pm kp))), (0, .ref (A 0 0)), (1, .int n1), (2, .int n2)]) hx hb d_Gp_life_22 hl (by decide) rfl (fun ls hl => ?_)
  refine lv_aload_n hx hb d_Gp_life_24 rfl (lv_at hl 1 rfl) ?_
  refine lv_iload_n hx hb d_Gp_life_25 rfl (lv_at hl 4 rfl) ?_
  refine gw_put M hK hI (hC.as hi) i_As t_As tk_As n_As rfl 8 (by decide) f_Gp_84 rfl rfl rfl (kAp (A 13 (pm kp)) (A 15 (pm kp)) (tt (pm kp)) (xt (pm kp)) (la (pm kp)) n2) (fun x hx => by obtain ⟨u3, u5, u6, u9, v1, v2, q9⟩ := hx; exact ⟨_, q9, Nat.le_of_ble_eq_true rfl, ⟨u3, u5, u6, u9, v1, v2, rfl⟩⟩) d_Gp_life_26 (fun H locs hI => ?_)
  obtain ⟨G3, hE_G3⟩ : ∃ z9, gw_up G (A 12 (pm kp)) (kAp (A 13 (pm kp)) (A 15 (pm kp)) (tt (pm kp)) (xt (pm kp)) (la (pm kp)) n2) = z9 := ⟨_, rfl⟩
  rw [hE_G3] at hI
  have hG5 : G3 (A 12 (pm kp)) = some (kAp (A 13 (pm kp)) (A 15 (pm kp)) (tt (pm kp)) (xt (pm kp)) (la (pm kp)) n2) := by rw [← hE_G3]; exact gw_up_s
  have hs4 : gw_fr (fun b => b = (A 12 (pm kp))) G G3 := by rw [← hE_G3]; exact gw_fr.up rfl
  refine lv_iload hx hb d_Gp_life_29 (lv_at hl 0 rfl) ?_
  exact gw_iret M hr hlo hI d_Gp_life_31 (⟨e_x2, (by first | rfl | exact hE_G3.symm | (rw [← hE_G3]; simp only [gw_up_up]) | (simp only [← hE_G3, gw_up_up]))⟩)

abbrev rm_Gp_given : Room := { frames := 3, cells := 0, slots := 0, locals := 69 }
set_option maxHeartbeats 4000000 in
set_option maxRecDepth 100000 in
theorem c_Gp_given (l : Launch) {D : gw_D} {Hs : Heap} {G : gw_G} (A : Nat → Nat → Nat) (pm : Nat → Nat) (cnt fd : Nat) (tt xt li : Nat → Int32) (la : Nat → Int64) (hC : cls D G A pm cnt fd tt xt li la) (n1 n2 : Int32) (kp : Nat) (hkp : isPl (fun j => tt (pm j)) cnt n1 kp) (hat : kp < cnt ∧ tt (pm kp) = n1)  (hok : ¬ n2 < 0) : Met l y_Gp_given (Cond.code y_Gp_given b_Gp_given 4 (some .long) :: tb) rm_Gp_given (gw_Pc D Hs G [.ref (A 0 0), .int n1, .int n2]) (gw_Ql D Hs (fun _ G1 => G1 = G)) 0 0 (gw_A Hs) := by
  refine gw_met (by decide) (Nat.le_of_ble_eq_true rfl) ?_
  intro p e s m args below meth c M hK hr hlo hin hI ls hl
  have hx := M.1
  have hb := M.2.1
  have hl : lv_has ls 4 [(0, .ref (A 0 0)), (1, .int n1), (2, .int n2)] := hl
  have hi : pm kp < 16 := hC.pmb (Nat.lt_of_lt_of_le hat.1 hC.c16)
  refine lv_aload_n hx hb d_Gp_given_0 rfl (lv_at hl 0 rfl) ?_
  refine lv_iload_n hx hb d_Gp_given_1 rfl (lv_at hl 1 rfl) ?_
  refine gp_Vr (As := [.int n1]) (rest := []) M hK hI (c_Gp_known l A pm cnt fd tt xt li la hC n1 kp hkp hat) k_Gp_known m_Gp_72 hC.O (ci := 5) rfl (fun x hx => ⟨_, hx⟩) rfl hl.1 rfl (Nat.le_of_ble_eq_true rfl) ⟨rfl, rfl, ⟨Nat.le_of_ble_eq_true rfl, Nat.le_of_ble_eq_true rfl⟩, ⟨Nat.le_of_ble_eq_true rfl, Nat.le_of_ble_eq_true rfl⟩⟩ d_Gp_given_2 (fun x1 h_x1 => ?_)
  subst h_x1
  refine lv_astore_n (lv' := [(3, .ref (A 12 (pm kp))), (0, .ref (A 0 0)), (1, .int n1), (2, .int n2)]) hx hb d_Gp_given_5 rfl hl (by decide) rfl (fun ls hl => ?_)
  refine lv_iload_n hx hb d_Gp_given_6 rfl (lv_at hl 3 rfl) ?_
  refine lv_if_ge (tgt := 18) hx hb d_Gp_given_7 (by decide) (fun c_7 => ?_) (fun q9 => absurd (Int32.not_lt.mp hok) q9)
  refine lv_aload_n hx hb d_Gp_given_18 rfl (lv_at hl 0 rfl) ?_
  refine gw_get M hK hI (hC.as hi) i_As rfl 1 (by decide) f_Gp_181 rfl (Pv := fun v => v = .ref (A 15 (pm kp))) (fun x hx => by obtain ⟨u3, u5, u6, u9, v1, v2, q9⟩ := hx; exact ⟨_, _, q9, rfl, rfl⟩) d_Gp_given_19 (fun v hv => ?_)
  subst hv
  refine lv_iload_n hx hb d_Gp_given_22 rfl (lv_at hl 3 rfl) ?_
  refine gw_Vl (As := [.int n2]) (rest := []) M hK hI (c_Wi_bitsFrom l n2 (A 15 (pm kp)) (A 16 (pm kp)) (hC.wi hi) (hC.bi hi)) k_Wi_bitsFrom m_Gp_199 (hC.wi hi) (ci := 4) rfl (fun x hx => by obtain ⟨u1, u2, h_u1, h_u2, q9⟩ := hx; exact ⟨_, q9⟩) rfl hl.1 rfl (Nat.le_of_ble_eq_true rfl) ⟨rfl, rfl, ⟨Nat.le_of_ble_eq_true rfl, Nat.le_of_ble_eq_true rfl⟩, ⟨Nat.le_of_ble_eq_true rfl, Nat.le_of_ble_eq_true rfl⟩⟩ d_Gp_given_23 (fun x2 G9 H locs hw hI => ?_)
  rw [hw] at hI
  exact gw_lret M hr hlo hI d_Gp_given_26 rfl

abbrev rm_Gp_told : Room := { frames := 2, cells := 0, slots := 0, locals := 44 }
set_option maxHeartbeats 4000000 in
set_option maxRecDepth 100000 in
theorem c_Gp_told (l : Launch) {D : gw_D} {Hs : Heap} {G : gw_G} (A : Nat → Nat → Nat) (pm : Nat → Nat) (cnt fd : Nat) (tt xt li : Nat → Int32) (la : Nat → Int64) (hC : cls D G A pm cnt fd tt xt li la) (n1 n2 : Int32) (kp : Nat) (hkp : isPl (fun j => tt (pm j)) cnt n1 kp) (hat : kp < cnt ∧ tt (pm kp) = n1)  (hok : ¬ (n2.toInt < 0 ∨ 7 < n2.toInt)) : Met l y_Gp_told (Cond.code y_Gp_told b_Gp_told 4 (some .long) :: tb) rm_Gp_told (gw_Pc D Hs G [.ref (A 0 0), .int n1, .int n2]) (gw_Ql D Hs (fun _ G1 => G1 = G)) 0 0 (gw_A Hs) := by
  refine gw_met (by decide) (Nat.le_of_ble_eq_true rfl) ?_
  intro p e s m args below meth c M hK hr hlo hin hI ls hl
  have hx := M.1
  have hb := M.2.1
  have hl : lv_has ls 4 [(0, .ref (A 0 0)), (1, .int n1), (2, .int n2)] := hl
  have hi : pm kp < 16 := hC.pmb (Nat.lt_of_lt_of_le hat.1 hC.c16)
  refine lv_aload_n hx hb d_Gp_told_0 rfl (lv_at hl 0 rfl) ?_
  refine lv_iload_n hx hb d_Gp_told_1 rfl (lv_at hl 1 rfl) ?_
  refine gp_Vr (As := [.int n1]) (rest := []) M hK hI (c_Gp_known l A pm cnt fd tt xt li la hC n1 kp hkp hat) k_Gp_known m_Gp_72 hC.O (ci := 5) rfl (fun x hx => ⟨_, hx⟩) rfl hl.1 rfl (Nat.le_of_ble_eq_true rfl) ⟨rfl, rfl, ⟨Nat.le_of_ble_eq_true rfl, Nat.le_of_ble_eq_true rfl⟩, ⟨Nat.le_of_ble_eq_true rfl, Nat.le_of_ble_eq_true rfl⟩⟩ d_Gp_told_2 (fun x1 h_x1 => ?_)
  subst h_x1
  refine lv_astore_n (lv' := [(3, .ref (A 12 (pm kp))), (0, .ref (A 0 0)), (1, .int n1), (2, .int n2)]) hx hb d_Gp_told_5 rfl hl (by decide) rfl (fun ls hl => ?_)
  refine lv_iload_n hx hb d_Gp_told_6 rfl (lv_at hl 3 rfl) ?_
  obtain ⟨j, hj, hjn⟩ : ∃ j : Nat, j < 8 ∧ n2.toInt = j := ⟨n2.toInt.toNat, by omega, by omega⟩
  match j, hj, hjn with
  | 0, _, hjn =>
    refine lv_tableIn (tgt := 52) hx hb d_Gp_told_7 (by omega) (by omega) (off := 45) (by rw [hjn]; rfl) (by decide) ?_
    refine lv_aload_n hx hb d_Gp_told_52 rfl (lv_at hl 0 rfl) ?_
    refine gw_get M hK hI (hC.as hi) i_As rfl 7 (by decide) f_Gp_76 rfl (Pv := fun v => v = .long (la (pm kp))) (fun x hx => by obtain ⟨u3, u5, u6, u9, v1, v2, q9⟩ := hx; exact ⟨_, _, q9, rfl, rfl⟩) d_Gp_told_53 (fun v hv => ?_)
    subst hv
    exact gw_lret M hr hlo hI d_Gp_told_56 rfl
  | 1, _, hjn =>
    refine lv_tableIn (tgt := 57) hx hb d_Gp_told_7 (by omega) (by omega) (off := 50) (by rw [hjn]; rfl) (by decide) ?_
    refine lv_aload_n hx hb d_Gp_told_57 rfl (lv_at hl 0 rfl) ?_
    refine gw_get M hK hI (hC.as hi) i_As rfl 1 (by decide) f_Gp_181 rfl (Pv := fun v => v = .ref (A 15 (pm kp))) (fun x hx => by obtain ⟨u3, u5, u6, u9, v1, v2, q9⟩ := hx; exact ⟨_, _, q9, rfl, rfl⟩) d_Gp_told_58 (fun v hv => ?_)
    subst hv
    refine gw_get M hK hI (hC.wi hi) i_Wi rfl 2 (by decide) f_Gp_185 rfl (Pv := fun v => ∃ x9 : Int64, v = .long x9 ∧ ¬ x9 < 0) (fun x hx => by obtain ⟨u1, u2, h_u1, h_u2, q9⟩ := hx; exact ⟨_, _, q9, rfl, _, rfl, h_u2⟩) d_Gp_told_61 (fun v hv => ?_)
    obtain ⟨x2, rfl, h_x2⟩ := hv
    exact gw_lret M hr hlo hI d_Gp_told_64 rfl
  | 2, _, hjn =>
    refine lv_tableIn (tgt := 65) hx hb d_Gp_told_7 (by omega) (by omega) (off := 58) (by rw [hjn]; rfl) (by decide) ?_
    refine lv_aload_n hx hb d_Gp_told_65 rfl (lv_at hl 0 rfl) ?_
    refine gw_get M hK hI (hC.as hi) i_As rfl 9 (by decide) f_Gp_190 rfl (Pv := fun v => ∃ x9 : Int64, v = .long x9) (fun x hx => by obtain ⟨u3, u5, u6, u9, v1, v2, q9⟩ := hx; exact ⟨_, _, q9, rfl, _, rfl⟩) d_Gp_told_66 (fun v hv => ?_)
    obtain ⟨x3, rfl⟩ := hv
    exact gw_lret M hr hlo hI d_Gp_told_69 rfl
  | 3, _, hjn =>
    refine lv_tableIn (tgt := 70) hx hb d_Gp_told_7 (by omega) (by omega) (off := 63) (by rw [hjn]; rfl) (by decide) ?_
    refine lv_aload_n hx hb d_Gp_told_70 rfl (lv_at hl 0 rfl) ?_
    refine gw_get M hK hI (hC.as hi) i_As rfl 10 (by decide) f_Gp_163 rfl (Pv := fun v => ∃ x9 : Int64, v = .long x9) (fun x hx => by obtain ⟨u3, u5, u6, u9, v1, v2, q9⟩ := hx; exact ⟨_, _, q9, rfl, _, rfl⟩) d_Gp_told_71 (fun v hv => ?_)
    obtain ⟨x4, rfl⟩ := hv
    exact gw_lret M hr hlo hI d_Gp_told_74 rfl
  | 4, _, hjn =>
    refine lv_tableIn (tgt := 75) hx hb d_Gp_told_7 (by omega) (by omega) (off := 68) (by rw [hjn]; rfl) (by decide) ?_
    refine lv_aload_n hx hb d_Gp_told_75 rfl (lv_at hl 0 rfl) ?_
    refine gw_get M hK hI (hC.as hi) i_As rfl 11 (by decide) f_Gp_170 rfl (Pv := fun v => ∃ x9 : Int64, v = .long x9) (fun x hx => by obtain ⟨u3, u5, u6, u9, v1, v2, q9⟩ := hx; exact ⟨_, _, q9, rfl, _, rfl⟩) d_Gp_told_76 (fun v hv => ?_)
    obtain ⟨x5, rfl⟩ := hv
    exact gw_lret M hr hlo hI d_Gp_told_79 rfl
  | 5, _, hjn =>
    refine lv_tableIn (tgt := 80) hx hb d_Gp_told_7 (by omega) (by omega) (off := 73) (by rw [hjn]; rfl) (by decide) ?_
    refine lv_aload_n hx hb d_Gp_told_80 rfl (lv_at hl 0 rfl) ?_
    refine gw_get M hK hI (hC.as hi) i_As rfl 8 (by decide) f_Gp_84 rfl (Pv := fun v => v = .int (li (pm kp))) (fun x hx => by obtain ⟨u3, u5, u6, u9, v1, v2, q9⟩ := hx; exact ⟨_, _, q9, rfl, rfl⟩) d_Gp_told_81 (fun v hv => ?_)
    subst hv
    refine lv_i2l hx hb d_Gp_told_84 rfl ?_
    exact gw_lret M hr hlo hI d_Gp_told_85 rfl
  | 6, _, hjn =>
    refine lv_tableIn (tgt := 86) hx hb d_Gp_told_7 (by omega) (by omega) (off := 79) (by rw [hjn]; rfl) (by decide) ?_
    refine lv_aload_n hx hb d_Gp_told_86 rfl (lv_at hl 0 rfl) ?_
    refine gw_get M hK hI (hC.as hi) i_As rfl 1 (by decide) f_Gp_181 rfl (Pv := fun v => v = .ref (A 15 (pm kp))) (fun x hx => by obtain ⟨u3, u5, u6, u9, v1, v2, q9⟩ := hx; exact ⟨_, _, q9, rfl, rfl⟩) d_Gp_told_87 (fun v hv => ?_)
    subst hv
    refine gw_get M hK hI (hC.wi hi) i_Wi rfl 1 (by decide) f_Gp_193 rfl (Pv := fun v => ∃ x9 : Int32, v = .int x9 ∧ okV x9) (fun x hx => by obtain ⟨u1, u2, h_u1, h_u2, q9⟩ := hx; exact ⟨_, _, q9, rfl, _, rfl, h_u1⟩) d_Gp_told_90 (fun v hv => ?_)
    obtain ⟨x6, rfl, h_x6⟩ := hv
    refine lv_i2l hx hb d_Gp_told_93 rfl ?_
    exact gw_lret M hr hlo hI d_Gp_told_94 rfl
  | 7, _, hjn =>
    refine lv_tableIn (tgt := 95) hx hb d_Gp_told_7 (by omega) (by omega) (off := 88) (by rw [hjn]; rfl) (by decide) ?_
    refine lv_aload_n hx hb d_Gp_told_95 rfl (lv_at hl 0 rfl) ?_
    refine gw_get M hK hI (hC.as hi) i_As rfl 4 (by decide) f_Gp_196 rfl (Pv := fun v => v = .int (xt (pm kp))) (fun x hx => by obtain ⟨u3, u5, u6, u9, v1, v2, q9⟩ := hx; exact ⟨_, _, q9, rfl, rfl⟩) d_Gp_told_96 (fun v hv => ?_)
    subst hv
    refine lv_if_eq (tgt := 106) hx hb d_Gp_told_99 (by decide) (fun c_99 => ?_) (fun c_99 => ?_)
    · refine lv_lconst (v := 0) hx hb d_Gp_told_106 (by decide) ?_
      exact gw_lret M hr hlo hI d_Gp_told_107 rfl
    · refine lv_lconst (v := 1) hx hb d_Gp_told_102 (by decide) ?_
      refine lv_goto (tgt := 107) hx hb d_Gp_told_103 (by decide) ?_
      exact gw_lret M hr hlo hI d_Gp_told_107 rfl
  | j + 8, hj, _ => exact absurd hj (Nat.not_lt.mpr (Nat.le_add_left _ _))
