/-! methods that throw: which, is known before; the world stays as it was -/
def xt_T (D : gw_D) (Hs : Heap) (G : gw_G) (E : String) (st : State) (q : Addr) (t : State) (mc ms : Nat) : Prop :=
  ∃ (ce : Cell) (L : List Loc), gw_P D Hs G t.heap ∧ va_F (gw_A Hs) st t ∧ t.heap[q]? = some ce ∧ ce.vm = .none ∧ st.vm.findClass E = some ce.cls ∧ st.WarmedH t.vm ∧ st.sameButNew ({ t with vm := st.vm } : State) L mc ms ∧ ∀ z ∈ L, gw_A Hs z.base
def xt_Q (D : gw_D) (Hs : Heap) (G : gw_G) (E : String) (mc ms : Nat) : Array Value → State → Outcome → State → Prop := fun _ st o t => ∃ q, o = .threw q ∧ xt_T D Hs G E st q t mc ms
/-- a contract: from here the method throws an E -/
def xt_Met (l : Launch) (y : MethodName) (bytes : ByteArray) (maxL : Nat) (ret : Option FieldType) (rm : Room) (D : gw_D) (Hs : Heap) (G : gw_G) (av : List Value) (E : String) (mc ms : Nat) : Prop :=
  MetFree l y (headSpec (Cond.code y bytes maxL ret :: tb) rm) (gw_Pc D Hs G av) (fun _ _ _ _ _ => True) (xt_Q D Hs G E mc ms)
def xt_M (below : List Frame) (D : gw_D) (Hs : Heap) (G : gw_G) (E : String) (a : Array Value) (s : State) (mc ms : Nat) : State → Prop := fun t => ∃ o, t.status = .running ∧ Ended t below o ∧ xt_Q D Hs G E mc ms a s o t
section XT
variable {p : Program} {l : Launch} {e : Env} {R : Room} {s : State} {m : MethodId} {args : Array Value} {below : List Frame} {meth : Method} {c : Code} {H H0 : Heap} {locs : List Loc} {cells slots : Nat} {Q : State → Prop}
variable {cc : ByteArray} {pc nL : Nat} {ls : Array Slot} {rest st : List Value} {own : String} {D : gw_D} {Hs : Heap} {G : gw_G} {K : va_E → Prop}
variable {y : MethodName} {bytes : ByteArray} {maxL mc ms n index b : Nat} {ret : Option FieldType} {rm : Room} {As av : List Value} {E : String}
theorem xt_met (hy : plainName y.cls = true) (hav : (lg_sl av).length ≤ maxL)
    (body : ∀ (p : Program) (e : Env) (s : State) (m : MethodId) (args : Array Value) (below : List Frame) (meth : Method) (c : Code), CallFix p m c bytes maxL s args tb y.cls → gw_K D Hs s → meth.locks = false → (∀ x ∈ c.exceptionTable.toList, False) → gw_I D Hs G s.heap s.heap [] →
      ∀ ls : Array Slot, lv_has ls maxL (lv_args 0 av) → W p l e rm s m args below meth c s.heap [] 0 0 (xt_M below D Hs G E args s mc ms) (F0 m 0 ls [])) : xt_Met l y bytes maxL ret rm D Hs G av E mc ms := by
  refine MetFree.of_bodyS (code := bytes) (maxLocals := maxL) (ret := ret) hy ?_ ?_
  · intro args s m h hn
    obtain ⟨meth, c, h1, h2, h3, h4, h5, h6, -, -⟩ := Cond.code_spec hn (atoms_spec (ws := Cond.code y bytes maxL ret :: tb) h _ List.mem_cons_self)
    exact ⟨meth, c, h1, h2, h3, h4, h5, h6⟩
  · intro p e s m args below meth c s₁ B hml hv _
    obtain ⟨rfl, hP, hK⟩ := hv
    have hts0 := atoms_spec (ws := Cond.code y bytes maxL ret :: tb) B.pre
    have hh0 : s₁.heap = s.heap := by rw [B.state]; rfl
    have hex : ∀ x ∈ c.exceptionTable.toList, False := by
      obtain ⟨meth9, c9, h1, h2, -, -, -, -, h7, -⟩ := Cond.code_spec B.named (hts0 _ List.mem_cons_self)
      cases Option.some.inj (h1.symm.trans B.method)
      cases Option.some.inj (h2.symm.trans (Stand.of_body B).code)
      intro x hx
      rw [Array.isEmpty_iff.mp h7] at hx
      cases hx
    have hl := lv_entry av (n := maxL) hav
    have K := body p e s m _ below meth c ⟨B.exec, B.bytes, hml, findClass_of_methodNamed B.named, fun w h => hts0 w (List.mem_cons_of_mem _ h)⟩ hK B.notSynchronized hex ⟨hP, va_S.rf⟩ _ hl
    rw [← lg_entry_eq] at K
    obtain ⟨t, a1, o, b1, b2, b3⟩ := K s₁ hh0 (Stand.of_body B)
    exact ⟨t, o, a1, b1, b2, b3⟩
/-- the words of a throw that are not among the good ones -/
def xt_sp (w : Cond) : Prop := w = .declares (xt_i "java/lang/RuntimeException") ∨ w = .declares (xt_i "java/lang/Exception") ∨ w = .declares (xt_i "java/lang/Throwable") ∨ w = .castable "java/lang/IllegalArgumentException" "java/lang/IllegalArgumentException" ∨ w = .castable "java/lang/IllegalStateException" "java/lang/IllegalStateException" ∨ w = .castable "java/lang/IndexOutOfBoundsException" "java/lang/IndexOutOfBoundsException" ∨ w = .laysStatic Bundle.tN "UNASSIGNED_STACK" Bundle.steD ∨ w = .laysStatic Bundle.tN "SUPPRESSED_SENTINEL" Bundle.listD ∨ w = .isRef (.static Bundle.tN "UNASSIGNED_STACK" Bundle.steD) ∨ w = .isRef (.static Bundle.tN "SUPPRESSED_SENTINEL" Bundle.listD)
theorem xt_words (M : CallFix p m c cc nL s args tb own) (hK : gw_K D Hs s) (hk : ∀ q : Nat, q < Hs.size → s.heap[q]? = Hs[q]?) {ws : List Cond} (h : ∀ w ∈ ws, w ∈ tb ∨ xt_sp w) : ∀ w ∈ ws, w.before args s = true := by
  intro w hw
  obtain ⟨-, -, -, -, -, -, -, t, f, -, -, h1, h2, h3, h4, h5, h6, h7, h8, -, -⟩ := hK
  rcases h w hw with hw | hw
  · exact M.2.2.2.2 w hw
  · rcases hw with rfl | rfl | rfl | rfl | rfl | rfl | rfl | rfl | rfl | rfl
    · exact va_Nw.use rfl h1
    · exact va_Nw.use rfl h2
    · exact va_Nw.use rfl h3
    · exact va_Nw.use rfl h4
    · exact va_Nw.use rfl h5
    · exact va_Nw.use rfl h6
    · exact h7.lay hk
    · exact h8.lay hk
    · exact h7.ref hk
    · exact h8.ref hk
/-- 'throw new E()', where nothing was written yet -/
theorem xt_throw (M : CallFix p m c cc nL s args tb own) (hK : gw_K D Hs s) (hI : gw_I D Hs G s.heap s.heap []) (htr : l.stackTraces = false) (hlo : meth.locks = false) (hex : ∀ x ∈ c.exceptionTable.toList, False) {cls : String} {names : List String} {ik ic : Nat} (hcls : Bundle.fit cls = true) (hnames : ∀ n ∈ names, Bundle.fit n = true)
    (hk : Cond.classLink own ik cls ∈ tb) (hini : Cond.initialized cls ∈ tb) (hins : Cond.instantiable cls 6 ∈ tb) (hat : ∀ w ∈ Bundle.ownAtoms0 own ic cls names, w ∈ tb ∨ xt_sp w) (hsize : ls.size = nL)
    (d0 : decode cc pc = .ok (.new ik, 3)) (d3 : decode cc (pc + 3) = .ok (.dup, 1)) (d4 : decode cc (pc + 4) = .ok (.invokespecial ic, 3)) (d7 : decode cc (pc + 7) = .ok (.athrow, 1))
    (hRf : names.length + 3 < R.frames) (hRl : (rest.map fun v => v.category).sum + (13 * (names.length + 1) + 42) ≤ R.locals) (hRc : 1 ≤ R.cells) (hRs : 6 ≤ R.slots) :
    W p l e R s m args below meth c s.heap [] 0 0 (xt_M below D Hs G cls args s 1 6) (F0 m pc ls rest) := by
  obtain ⟨hx, hb, hml, hown, hts⟩ := id M
  intro T hT X
  have htr' : e.platform.stackTraces = false := (show e.platform.stackTraces = l.stackTraces by rw [X.admits.platform]).trans htr
  have hw := xt_words M hK hI.1.2.1 hat
  obtain ⟨vm₁, cX, kX, hfX, hkX, -, -, X₁, st1⟩ := X.newCold hx (own := own) (C := cls) (index := ik) (n := 6) hown (hts _ hk) (hts _ hins) (hts _ hini) (g := F0 m pc ls rest) rfl (by rw [hb]; exact d0) (by omega) (by omega)
  generalize hT1 : (T.setVm vm₁).pushCell { cls := cX, slots := kX.instanceTypes.map defaultValue, vm := .none } = T1 at X₁ st1
  have hcellA : T1.heap[T.heap.size]? = some (freshCell cX kX) := by rw [← hT1]; exact State.heap_pushCell_size _ _
  have hcat : (Value.ref T.heap.size).category = 1 := rfl
  have d3' : decode c.code (pc + 3) = .ok (.dup, 1) := by rw [hb]; exact d3
  obtain ⟨U, hsteps, hrun, hend, hW, hsame, ce, hce, hO⟩ := X₁.ctorThrow0 hx htr' (own := own) (cls := cls) (names := names) (ic := ic) hown hcls hnames hw (fun x hx => nomatch hx) hfX hkX hcellA (by rw [hT]; exact Nat.le_refl _)
    (g := { method := m, pc := pc + 4, locals := ls, stack := .ref T.heap.size :: .ref T.heap.size :: rest, locked := none }) rfl (hsize.trans hml.symm) rfl rfl (rest := rest) rfl
    (by rw [hb]; exact d4) (by rw [hb]; exact d7) (fun x hx => (hex x hx).elim) hRf (by show 2 * 0 + _ + _ ≤ _; simp only [List.map_cons, List.sum_cons, hcat]; omega) hlo
  obtain ⟨z1, z2, z3, z4, z5, z6⟩ := id hsame
  have hkeep : ∀ q : Nat, q < s.heap.size → U.heap[q]? = s.heap[q]? := by
    intro q hq
    obtain ⟨c9, e1, e2, e3, e4⟩ := z6 q _ (Array.getElem?_eq_getElem hq)
    have hs : c9.slots = (s.heap[q]).slots := Array.ext_getElem? fun i => e4 i fun hm => nomatch hm
    have h9 : c9 = s.heap[q] := by rw [hs] at e2; exact e2
    have e5 : U.heap[q]? = some c9 := e1
    rw [e5, h9, Array.getElem?_eq_getElem hq]
  have hz2 : s.heap.size ≤ U.heap.size := z2
  have hz3 : U.heap.size ≤ s.heap.size + 1 := by
    first
      | exact z3
      | (have h9 := z3; simp at h9; omega)
      | omega
  have hPU : gw_P D Hs G U.heap := by
    refine ⟨⟨Nat.le_trans hI.1.1.1 hz2, fun a0 c0 ha hc => ?_⟩, fun q hq => by rw [hkeep q (Nat.lt_of_lt_of_le hq hI.1.1.1)]; exact hI.1.2.1 q hq, fun a0 K0 h0 => ?_⟩
    · by_cases hq : a0 < s.heap.size
      · rw [hkeep a0 hq] at hc; exact hI.1.1.2 a0 c0 ha hc
      · have hlt : a0 < U.heap.size := (Array.getElem?_eq_some_iff.mp hc).1
        have he : a0 = T.heap.size := by rw [hT]; omega
        rw [he] at hc
        cases Option.some.inj (hc.symm.trans hce)
        rw [hO.vm]; rfl
    · obtain ⟨q1, e1, q2, q3⟩ := hI.1.2.2 a0 K0 h0
      exact ⟨q1, e1, q2, va_at.kept (q := (a0, e1)) q3 (hkeep a0 q3.lt)⟩
  refine ⟨U, ?_, .threw T.heap.size, hrun, hend, T.heap.size, rfl, ce, [], hPU, ⟨hz2, fun q hq _ => hkeep q hq⟩, hce, hO.vm, hO.cls, hW, hsame, fun z hz => nomatch hz⟩
  refine st1 _ ?_
  show Steps p.tables e below (T1.setTop { method := m, pc := pc + 3, locals := ls, stack := .ref T.heap.size :: rest, locked := none }) _
  jvm_step X₁.here [X₁.here.top, hx, d3', Value.category]
  exact hsteps
end XT
