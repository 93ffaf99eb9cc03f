section GPP
variable {p : Program} {l : Launch} {e : Env} {R : Room} {s : State} {m : MethodId} {args : Array Value} {below : List Frame} {meth : Method} {c : Code} {H H0 : Heap} {locs : List Loc} {cells slots : Nat} {Q : State → Prop}
variable {cc : ByteArray} {pc nL : Nat} {ls : Array Slot} {rest st : List Value} {own : String} {D : gw_D} {Hs : Heap} {G : gw_G} {K : va_E → Prop}
variable {y : MethodName} {bytes : ByteArray} {maxL n index b : Nat} {ret : Option FieldType} {rm : Room} {As : List Value}
/-- the end of a method that only reads -/
theorem gp_ret {v : Int32} {post : Int32 → Prop} {ty : FieldType} (M : CallFix p m c cc nL s args tb own) (hr : meth.sig.returnType = some ty) (hn : narrow ty (.int v) = .int v) (hlo : meth.locks = false) (hdg : decode cc pc = .ok (.ireturn, 1)) (hp : post v) :
    W p l e R s m args below meth c s.heap [] 0 0 (MQ below (vp_Si post) args s 0 0 (fun _ => False)) (F0 m pc ls [.int v]) :=
  W.zret M.1 M.2.1 hr hn (fun t ht hW => ⟨v, rfl, hp, ht⟩) (fun q hq => nomatch hq) hdg hlo
theorem gp_run {post : Int32 → Prop} {a : Array Value} {st0 : List Value} (hr : va_Run p l e R s m args below meth c H locs cells slots 0 0 (F0 m pc ls st0) rest (vp_Si post a) (fun _ => False)) (kk : ∀ r : Int32, post r → W p l e R s m args below meth c H locs cells slots Q (F0 m (pc + 3) ls (.int r :: rest))) : W p l e R s m args below meth c H locs cells slots Q (F0 m pc ls st0) := by
  intro T hT X
  obtain ⟨v, st₀, t, T', L, h0, X', hL, e1, -, ⟨r, hv, hp, hh⟩, sg⟩ := hr T hT X
  cases hv
  have hL0 : L = [] := by
    cases L with
    | nil => rfl
    | cons z zs => exact (hL z List.mem_cons_self).elim
  subst hL0
  rw [List.append_nil] at X'
  obtain ⟨t2, a1, b1⟩ := kk r hp T' (by rw [e1, hh]; exact h0) X'
  exact ⟨t2, sg t2 a1, b1⟩
theorem gp_V {post : Int32 → Prop} (M : CallFix p m c cc nL s args tb own) (hK : gw_K D Hs s) (hI : gw_I D Hs G H0 H locs) (hM : Met l y (Cond.code y bytes maxL ret :: tb) rm (gw_Pc D Hs G (.ref b :: As)) (vp_Si post) 0 0 (fun _ => False)) (k : gk_V y bytes maxL ret n) (hl : Cond.methodLink own index y ∈ tb) (hG : G b = some K) {T : u_T} {N ci : Nat} (hc : gcl[ci]? = some (y.cls, T, N)) (hv : ∀ x, K x → ∃ fs, x = .inr (ci, fs)) (hn : As.length = n) (hsize : ls.size = nL) (hst : st = As.reverse ++ .ref b :: rest) (hW : (rest.map fun v => v.category).sum ≤ 8) (hR : gk_R rm R maxL 0 0 cells slots) (hdg : decode cc pc = .ok (.invokevirtual index, 3))
    (kk : ∀ r : Int32, post r → W p l e R s m args below meth c H locs cells slots Q (F0 m (pc + 3) ls (.int r :: rest))) : W p l e R s m args below meth c H locs cells slots Q (F0 m pc ls st) := by
  subst hst
  exact gp_run (va_runV (As := As) (rest := rest) M hM (gk_cwV M.2.2.2.2 hl k hR.1 hR.2.1 hR.2.2.1) ⟨gw_Pc.blind, gw_recv hK hI hG hc hv, gw_pre hK hI _⟩ rfl hn hsize rfl (lv_room hW) hdg hR.2.2.2) kk
theorem gp_S {post : Int32 → Prop} (M : CallFix p m c cc nL s args tb own) (hK : gw_K D Hs s) (hI : gw_I D Hs G H0 H locs) (hM : Met l y (Cond.code y bytes maxL ret :: tb) rm (gw_Pc D Hs G As) (vp_Si post) 0 0 (fun _ => False)) (k : gk_S y bytes maxL ret n) (hl : Cond.methodLink own index y ∈ tb) (hn : As.length = n) (hsize : ls.size = nL) (hst : st = As.reverse ++ rest) (hW : (rest.map fun v => v.category).sum ≤ 8) (hR : gk_R rm R maxL 0 0 cells slots) (hdg : decode cc pc = .ok (.invokestatic index, 3))
    (kk : ∀ r : Int32, post r → W p l e R s m args below meth c H locs cells slots Q (F0 m (pc + 3) ls (.int r :: rest))) : W p l e R s m args below meth c H locs cells slots Q (F0 m pc ls st) := by
  subst hst
  exact gp_run (va_runS (As := As) (rest := rest) M hM (gk_cwS M.2.2.2.2 hl k hR.1 hR.2.1 hR.2.2.1) ⟨gw_Pc.blind, gw_pre hK hI _⟩ rfl hn hsize rfl (lv_room hW) hdg hR.2.2.2) kk
end GPP
def xt_b (w : Cond) : Bool := (decide (w ∈ lw_tbl) && goodWord w) || decide (w = .declares (xt_i "java/lang/RuntimeException")) || decide (w = .declares (xt_i "java/lang/Exception")) || decide (w = .declares (xt_i "java/lang/Throwable")) || decide (w = .castable "java/lang/IllegalArgumentException" "java/lang/IllegalArgumentException") || decide (w = .castable "java/lang/IllegalStateException" "java/lang/IllegalStateException") || decide (w = .castable "java/lang/IndexOutOfBoundsException" "java/lang/IndexOutOfBoundsException") || decide (w = .laysStatic Bundle.tN "UNASSIGNED_STACK" Bundle.steD) || decide (w = .laysStatic Bundle.tN "SUPPRESSED_SENTINEL" Bundle.listD) || decide (w = .isRef (.static Bundle.tN "UNASSIGNED_STACK" Bundle.steD)) || decide (w = .isRef (.static Bundle.tN "SUPPRESSED_SENTINEL" Bundle.listD))
theorem xt_bt {ws : List Cond} (h : ws.all xt_b = true) : ∀ w ∈ ws, w ∈ tb ∨ xt_sp w := by
  intro w hw
  have h1 := List.all_eq_true.mp h w hw
  simp only [xt_b, Bool.or_eq_true, Bool.and_eq_true, decide_eq_true_eq] at h1
  rcases h1 with (((((((((h1 | h1) | h1) | h1) | h1) | h1) | h1) | h1) | h1) | h1) | h1
  · exact Or.inl (tb_of h1.1 h1.2)
  · exact Or.inr (Or.inl h1)
  · exact Or.inr (Or.inr (Or.inl h1))
  · exact Or.inr (Or.inr (Or.inr (Or.inl h1)))
  · exact Or.inr (Or.inr (Or.inr (Or.inr (Or.inl h1))))
  · exact Or.inr (Or.inr (Or.inr (Or.inr (Or.inr (Or.inl h1)))))
  · exact Or.inr (Or.inr (Or.inr (Or.inr (Or.inr (Or.inr (Or.inl h1))))))
  · exact Or.inr (Or.inr (Or.inr (Or.inr (Or.inr (Or.inr (Or.inr (Or.inl h1)))))))
  · exact Or.inr (Or.inr (Or.inr (Or.inr (Or.inr (Or.inr (Or.inr (Or.inr (Or.inl h1))))))))
  · exact Or.inr (Or.inr (Or.inr (Or.inr (Or.inr (Or.inr (Or.inr (Or.inr (Or.inr (Or.inl h1)))))))))
  · exact Or.inr (Or.inr (Or.inr (Or.inr (Or.inr (Or.inr (Or.inr (Or.inr (Or.inr (Or.inr h1)))))))))
theorem at_IAE : ∀ w ∈ Bundle.ownAtoms0 y_Gp_add.cls 55 "java/lang/IllegalArgumentException" ["java/lang/RuntimeException", "java/lang/Exception"], w ∈ tb ∨ xt_sp w := xt_bt (by decide +kernel)
theorem z_IAE : Cond.initialized "java/lang/IllegalArgumentException" ∈ tb := tb_1 11 rfl rfl
theorem j_IAE : Cond.instantiable "java/lang/IllegalArgumentException" 6 ∈ tb := tb_2 132 rfl rfl
theorem at_ISE : ∀ w ∈ Bundle.ownAtoms0 y_Gp_add.cls 207 "java/lang/IllegalStateException" ["java/lang/RuntimeException", "java/lang/Exception"], w ∈ tb ∨ xt_sp w := xt_bt (by decide +kernel)
theorem z_ISE : Cond.initialized "java/lang/IllegalStateException" ∈ tb := tb_1 12 rfl rfl
theorem j_ISE : Cond.instantiable "java/lang/IllegalStateException" 6 ∈ tb := tb_2 224 rfl rfl
theorem at_IOE : ∀ w ∈ Bundle.ownAtoms0 y_Gp_add.cls 131 "java/lang/IndexOutOfBoundsException" ["java/lang/RuntimeException", "java/lang/Exception"], w ∈ tb ∨ xt_sp w := xt_bt (by decide +kernel)
theorem z_IOE : Cond.initialized "java/lang/IndexOutOfBoundsException" ∈ tb := tb_1 14 rfl rfl
theorem j_IOE : Cond.instantiable "java/lang/IndexOutOfBoundsException" 6 ∈ tb := tb_3 41 rfl rfl

section GPQ
variable {p : Program} {l : Launch} {e : Env} {R : Room} {s : State} {m : MethodId} {args : Array Value} {below : List Frame} {meth : Method} {c : Code} {H H0 : Heap} {locs : List Loc} {cells slots : Nat} {Q : State → Prop}
variable {cc : ByteArray} {pc nL : Nat} {ls : Array Slot} {rest st : List Value} {own : String} {D : gw_D} {Hs : Heap} {G : gw_G} {K : va_E → Prop}
variable {y : MethodName} {bytes : ByteArray} {maxL n index b : Nat} {ret : Option FieldType} {rm : Room} {As : List Value}
def gp_Sr (post : Nat → Prop) : Array Value → State → Outcome → State → Prop := fun _ st o t => ∃ r : Nat, o = .returned (some (.ref r)) ∧ post r ∧ t.heap = st.heap
theorem gp_retl {v : Int64} {post : Int64 → Prop} (M : CallFix p m c cc nL s args tb own) (hr : meth.sig.returnType = some .long) (hlo : meth.locks = false) (hdg : decode cc pc = .ok (.lreturn, 1)) (hp : post v) :
    W p l e R s m args below meth c s.heap [] 0 0 (MQ below (vp_Sl post) args s 0 0 (fun _ => False)) (F0 m pc ls [.long v]) :=
  W.lret M.1 M.2.1 hr (fun t ht hW => ⟨v, rfl, hp, ht⟩) (fun q hq => nomatch hq) hdg hlo
theorem gp_reta {v : Nat} {C : String} {post : Nat → Prop} (M : CallFix p m c cc nL s args tb own) (hr : meth.sig.returnType = some (.object C)) (hlo : meth.locks = false) (hdg : decode cc pc = .ok (.areturn, 1)) (hp : post v) :
    W p l e R s m args below meth c s.heap [] 0 0 (MQ below (gp_Sr post) args s 0 0 (fun _ => False)) (F0 m pc ls [.ref v]) :=
  W.aret M.1 M.2.1 hr (Or.inl ⟨_, rfl⟩) (Or.inr ⟨_, rfl⟩) (fun t ht hW => ⟨v, rfl, hp, ht⟩) (fun q hq => nomatch hq) hdg hlo

theorem gp_runl {post : Int64 → Prop} {a : Array Value} {st0 : List Value} (hr : va_Run p l e R s m args below meth c H locs cells slots 0 0 (F0 m pc ls st0) rest (vp_Sl post a) (fun _ => False)) (kk : ∀ r : Int64, post r → W p l e R s m args below meth c H locs cells slots Q (F0 m (pc + 3) ls (.long r :: rest))) : W p l e R s m args below meth c H locs cells slots Q (F0 m pc ls st0) := by
  intro T hT X
  obtain ⟨v, st₀, t, T', L, h0, X', hL, e1, -, ⟨r, hv, hp, hh⟩, sg⟩ := hr T hT X
  cases hv
  have hL0 : L = [] := by
    cases L with
    | nil => rfl
    | cons z zs => exact (hL z List.mem_cons_self).elim
  subst hL0
  rw [List.append_nil] at X'
  obtain ⟨t2, a1, b1⟩ := kk r hp T' (by rw [e1, hh]; exact h0) X'
  exact ⟨t2, sg t2 a1, b1⟩
theorem gp_Vl {post : Int64 → Prop} (M : CallFix p m c cc nL s args tb own) (hK : gw_K D Hs s) (hI : gw_I D Hs G H0 H locs) (hM : Met l y (Cond.code y bytes maxL ret :: tb) rm (gw_Pc D Hs G (.ref b :: As)) (vp_Sl post) 0 0 (fun _ => False)) (k : gk_V y bytes maxL ret n) (hl : Cond.methodLink own index y ∈ tb) (hG : G b = some K) {T : u_T} {N ci : Nat} (hc : gcl[ci]? = some (y.cls, T, N)) (hv : ∀ x, K x → ∃ fs, x = .inr (ci, fs)) (hn : As.length = n) (hsize : ls.size = nL) (hst : st = As.reverse ++ .ref b :: rest) (hW : (rest.map fun v => v.category).sum ≤ 8) (hR : gk_R rm R maxL 0 0 cells slots) (hdg : decode cc pc = .ok (.invokevirtual index, 3))
    (kk : ∀ r : Int64, post r → W p l e R s m args below meth c H locs cells slots Q (F0 m (pc + 3) ls (.long r :: rest))) : W p l e R s m args below meth c H locs cells slots Q (F0 m pc ls st) := by
  subst hst
  exact gp_runl (va_runV (As := As) (rest := rest) M hM (gk_cwV M.2.2.2.2 hl k hR.1 hR.2.1 hR.2.2.1) ⟨gw_Pc.blind, gw_recv hK hI hG hc hv, gw_pre hK hI _⟩ rfl hn hsize rfl (lv_room hW) hdg hR.2.2.2) kk

theorem gp_runr {post : Nat → Prop} {a : Array Value} {st0 : List Value} (hr : va_Run p l e R s m args below meth c H locs cells slots 0 0 (F0 m pc ls st0) rest (gp_Sr post a) (fun _ => False)) (kk : ∀ r : Nat, post r → W p l e R s m args below meth c H locs cells slots Q (F0 m (pc + 3) ls (.ref r :: rest))) : W p l e R s m args below meth c H locs cells slots Q (F0 m pc ls st0) := by
  intro T hT X
  obtain ⟨v, st₀, t, T', L, h0, X', hL, e1, -, ⟨r, hv, hp, hh⟩, sg⟩ := hr T hT X
  cases hv
  have hL0 : L = [] := by
    cases L with
    | nil => rfl
    | cons z zs => exact (hL z List.mem_cons_self).elim
  subst hL0
  rw [List.append_nil] at X'
  obtain ⟨t2, a1, b1⟩ := kk r hp T' (by rw [e1, hh]; exact h0) X'
  exact ⟨t2, sg t2 a1, b1⟩
theorem gp_Vr {post : Nat → Prop} (M : CallFix p m c cc nL s args tb own) (hK : gw_K D Hs s) (hI : gw_I D Hs G H0 H locs) (hM : Met l y (Cond.code y bytes maxL ret :: tb) rm (gw_Pc D Hs G (.ref b :: As)) (gp_Sr post) 0 0 (fun _ => False)) (k : gk_V y bytes maxL ret n) (hl : Cond.methodLink own index y ∈ tb) (hG : G b = some K) {T : u_T} {N ci : Nat} (hc : gcl[ci]? = some (y.cls, T, N)) (hv : ∀ x, K x → ∃ fs, x = .inr (ci, fs)) (hn : As.length = n) (hsize : ls.size = nL) (hst : st = As.reverse ++ .ref b :: rest) (hW : (rest.map fun v => v.category).sum ≤ 8) (hR : gk_R rm R maxL 0 0 cells slots) (hdg : decode cc pc = .ok (.invokevirtual index, 3))
    (kk : ∀ r : Nat, post r → W p l e R s m args below meth c H locs cells slots Q (F0 m (pc + 3) ls (.ref r :: rest))) : W p l e R s m args below meth c H locs cells slots Q (F0 m pc ls st) := by
  subst hst
  exact gp_runr (va_runV (As := As) (rest := rest) M hM (gk_cwV M.2.2.2.2 hl k hR.1 hR.2.1 hR.2.2.1) ⟨gw_Pc.blind, gw_recv hK hI hG hc hv, gw_pre hK hI _⟩ rfl hn hsize rfl (lv_room hW) hdg hR.2.2.2) kk

end GPQ
/-- what sort of cell it is -/
def gt : va_E → Nat := fun e => match e with
  | .inr (ci, _) => ci
  | .inl (_, _, .inl _) => 100
  | .inl (_, _, .inr (.inl _)) => 101
  | .inl (_, n, _) => 1000 + n
theorem gw_nec {D : gw_D} {Hs : Heap} {G : gw_G} {H0 H : Heap} {locs : List Loc} (hI : gw_I D Hs G H0 H locs) {a b : Nat} {K K' : va_E → Prop} {u v : Nat} (h1 : G a = some K) (h2 : G b = some K') (t1 : ∀ x, K x → gt x = u) (t2 : ∀ x, K' x → gt x = v) (huv : u ≠ v) : a ≠ b := by
  intro q
  subst q
  rw [h1] at h2
  cases h2
  obtain ⟨-, e, he, -⟩ := hI.1.2.2 _ _ h1
  exact huv ((t1 e he).symm.trans (t2 e he))
/-- fed: just so many bytes -/
abbrev kFe (q k : Nat) : va_E → Prop := kx (.inr (3, [.ref q, .int (nI k), .int 0]))
abbrev kGp (A : Nat → Nat → Nat) (n : Nat) : va_E → Prop := kx (.inr (5, [.ref (A 1 0), .int (nI n), .ref (A 2 0), .ref (A 3 0), .ref (A 4 0), .ref (A 5 0), .ref (A 6 0), .ref (A 7 0)]))
/-- the addresses: 0 the object, 1 associations, 2 fed, 3 sent, 4 places, 5 plain, 6 gained, 7 check, 8 to 11 bytes of fed, sent, plain, gained; 12 each association, 13 its cipher, 14 words, 15 window, 16 bits; 17 each place, 18 its bytes -/
def cls_as (D : gw_D) (G : gw_G) (A : Nat → Nat → Nat) (tt xt li : Nat → Int32) (la : Nat → Int64) : Prop := ∀ i, i < 16 → G (A 12 i) = some (kAp (A 13 i) (A 15 i) (tt i) (xt i) (la i) (li i)) ∧ G (A 13 i) = some (kCi (A 14 i)) ∧ G (A 14 i) = some (kA D 0 44 tT) ∧ G (A 15 i) = some (kWj (A 16 i)) ∧ G (A 16 i) = some (kA D 0 32 tT)
def cls_fix (D : gw_D) (G : gw_G) (A : Nat → Nat → Nat) : Prop := (G (A 4 0) = some (kR D 5 8 (fun j b => b = A 17 j)) ∧ G (A 3 0) = some (kRo (A 9 0) 236) ∧ G (A 9 0) = some (kA D 1 236 tT) ∧ G (A 5 0) = some (kRo (A 10 0) 204) ∧ G (A 10 0) = some (kA D 1 204 tT) ∧ G (A 6 0) = some (kRo (A 11 0) 204) ∧ G (A 11 0) = some (kA D 1 204 tT) ∧ G (A 7 0) = some kCh ∧ G (A 8 0) = some (kA D 1 200 tT)) ∧ ∀ j, j < 8 → G (A 17 j) = some (kRo (A 18 j) 236) ∧ G (A 18 j) = some (kA D 1 236 tT)
/-- apart: what no kind tells -/
def cls_ap (A : Nat → Nat → Nat) : Prop := (∀ i j, i < 16 → j < 16 → A 12 i = A 12 j → i = j) ∧ A 2 0 ≠ A 3 0 ∧ A 2 0 ≠ A 5 0 ∧ A 2 0 ≠ A 6 0 ∧ (∀ j, j < 8 → A 17 j ≠ A 2 0)
def cls_pm (pm : Nat → Nat) (cnt fd : Nat) (xt : Nat → Int32) : Prop := cnt ≤ 16 ∧ fd ≤ 200 ∧ (∀ j, j < 16 → pm j < 16) ∧ (∀ i j, i < 16 → j < 16 → pm i = pm j → i = j) ∧ ∀ i, i < 16 → xt i = 0 ∨ xt i = 1
def cls (D : gw_D) (G : gw_G) (A : Nat → Nat → Nat) (pm : Nat → Nat) (cnt fd : Nat) (tt xt li : Nat → Int32) (la : Nat → Int64) : Prop :=
  (G (A 0 0) = some (kGp A cnt) ∧ G (A 1 0) = some (kR D 4 16 (fun j b => b = A 12 (pm j))) ∧ G (A 2 0) = some (kFe (A 8 0) fd)) ∧ cls_as D G A tt xt li la ∧ cls_fix D G A ∧ cls_ap A ∧ cls_pm pm cnt fd xt
section CLS
variable {D : gw_D} {G : gw_G} {A : Nat → Nat → Nat} {pm : Nat → Nat} {cnt fd : Nat} {tt xt li : Nat → Int32} {la : Nat → Int64}
theorem cls.O (h : cls D G A pm cnt fd tt xt li la) : G (A 0 0) = some (kGp A cnt) := h.1.1
theorem cls.arr (h : cls D G A pm cnt fd tt xt li la) : G (A 1 0) = some (kR D 4 16 (fun j b => b = A 12 (pm j))) := h.1.2.1
theorem cls.fed (h : cls D G A pm cnt fd tt xt li la) : G (A 2 0) = some (kFe (A 8 0) fd) := h.1.2.2
theorem cls.pla (h : cls D G A pm cnt fd tt xt li la) : G (A 4 0) = some (kR D 5 8 (fun j b => b = A 17 j)) := h.2.2.1.1.1
theorem cls.sent (h : cls D G A pm cnt fd tt xt li la) : G (A 3 0) = some (kRo (A 9 0) 236) := h.2.2.1.1.2.1
theorem cls.sq (h : cls D G A pm cnt fd tt xt li la) : G (A 9 0) = some (kA D 1 236 tT) := h.2.2.1.1.2.2.1
theorem cls.plain (h : cls D G A pm cnt fd tt xt li la) : G (A 5 0) = some (kRo (A 10 0) 204) := h.2.2.1.1.2.2.2.1
theorem cls.pq (h : cls D G A pm cnt fd tt xt li la) : G (A 10 0) = some (kA D 1 204 tT) := h.2.2.1.1.2.2.2.2.1
theorem cls.gain (h : cls D G A pm cnt fd tt xt li la) : G (A 6 0) = some (kRo (A 11 0) 204) := h.2.2.1.1.2.2.2.2.2.1
theorem cls.gq (h : cls D G A pm cnt fd tt xt li la) : G (A 11 0) = some (kA D 1 204 tT) := h.2.2.1.1.2.2.2.2.2.2.1
theorem cls.check (h : cls D G A pm cnt fd tt xt li la) : G (A 7 0) = some kCh := h.2.2.1.1.2.2.2.2.2.2.2.1
theorem cls.fq (h : cls D G A pm cnt fd tt xt li la) : G (A 8 0) = some (kA D 1 200 tT) := h.2.2.1.1.2.2.2.2.2.2.2.2
theorem cls.ro (h : cls D G A pm cnt fd tt xt li la) {j : Nat} (hj : j < 8) : G (A 17 j) = some (kRo (A 18 j) 236) := (h.2.2.1.2 j hj).1
theorem cls.rq (h : cls D G A pm cnt fd tt xt li la) {j : Nat} (hj : j < 8) : G (A 18 j) = some (kA D 1 236 tT) := (h.2.2.1.2 j hj).2
theorem cls.as (h : cls D G A pm cnt fd tt xt li la) {i : Nat} (hi : i < 16) : G (A 12 i) = some (kAp (A 13 i) (A 15 i) (tt i) (xt i) (la i) (li i)) := (h.2.1 i hi).1
theorem cls.ci (h : cls D G A pm cnt fd tt xt li la) {i : Nat} (hi : i < 16) : G (A 13 i) = some (kCi (A 14 i)) := (h.2.1 i hi).2.1
theorem cls.wo (h : cls D G A pm cnt fd tt xt li la) {i : Nat} (hi : i < 16) : G (A 14 i) = some (kA D 0 44 tT) := (h.2.1 i hi).2.2.1
theorem cls.wi (h : cls D G A pm cnt fd tt xt li la) {i : Nat} (hi : i < 16) : G (A 15 i) = some (kWj (A 16 i)) := (h.2.1 i hi).2.2.2.1
theorem cls.bi (h : cls D G A pm cnt fd tt xt li la) {i : Nat} (hi : i < 16) : G (A 16 i) = some (kA D 0 32 tT) := (h.2.1 i hi).2.2.2.2
theorem cls.ap (h : cls D G A pm cnt fd tt xt li la) : cls_ap A := h.2.2.2.1
theorem cls.p (h : cls D G A pm cnt fd tt xt li la) : cls_pm pm cnt fd xt := h.2.2.2.2
theorem cls.c16 (h : cls D G A pm cnt fd tt xt li la) : cnt ≤ 16 := h.p.1
theorem cls.f200 (h : cls D G A pm cnt fd tt xt li la) : fd ≤ 200 := h.p.2.1
theorem cls.pmb (h : cls D G A pm cnt fd tt xt li la) {j : Nat} (hj : j < 16) : pm j < 16 := h.p.2.2.1 j hj
end CLS
/-- the place of a name among t 0 .. t (cnt - 1) -/
def isPl (t : Nat → Int32) (cnt : Nat) (n : Int32) (k : Nat) : Prop := k ≤ cnt ∧ (∀ j, j < k → t j < n) ∧ (k < cnt → ¬ t k < n)
theorem isPl.ex (t : Nat → Int32) (n : Int32) (cnt : Nat) : ∃ k, isPl t cnt n k := by
  induction cnt with
  | zero => exact ⟨0, Nat.le_refl _, fun j hj => absurd hj (Nat.not_lt_zero _), fun h => absurd h (Nat.not_lt_zero _)⟩
  | succ c ih =>
    obtain ⟨k, h1, h2, h3⟩ := ih
    by_cases hk : k < c
    · exact ⟨k, by omega, h2, fun _ => h3 hk⟩
    · have e : k = c := by omega
      subst e
      by_cases hc : t k < n
      · refine ⟨k + 1, by omega, fun j hj => ?_, fun h => absurd h (by omega)⟩
        by_cases hj2 : j = k
        · subst hj2; exact hc
        · exact h2 j (by omega)
      · exact ⟨k, by omega, h2, fun _ => hc⟩
theorem isPl.un {t : Nat → Int32} {cnt : Nat} {n : Int32} {k k' : Nat} (h : isPl t cnt n k) (h' : isPl t cnt n k') : k = k' := by
  rcases Nat.lt_trichotomy k k' with q | q | q
  · exact absurd (h'.2.1 k q) (h.2.2 (Nat.lt_of_lt_of_le q h'.1))
  · exact q
  · exact absurd (h.2.1 k' q) (h'.2.2 (Nat.lt_of_lt_of_le q h.1))
theorem isRw_Ro {q n : Nat} : isRw (kRo q n) q n := fun x hx => by
  obtain ⟨u1, u2, ⟨k, hk, rfl⟩, -, rfl⟩ := hx
  exact ⟨k, u2, hk, rfl⟩
theorem isRw_Fe {q k n : Nat} (h : k ≤ n) : isRw (kFe q k) q n := fun x hx => ⟨k, 0, h, hx⟩
