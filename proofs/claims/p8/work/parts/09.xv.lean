section XV
variable {p : Program} {l : Launch} {e : Env} {R : Room} {s : State} {m : MethodId} {args : Array Value} {below : List Frame} {meth : Method} {c : Code} {H H0 : Heap} {locs : List Loc} {cells slots : Nat} {Q : State → Prop}
variable {cc : ByteArray} {pc nL : Nat} {ls : Array Slot} {rest st : List Value} {own : String} {D : gw_D} {Hs : Heap} {G : gw_G} {K : va_E → Prop}
variable {y : MethodName} {bytes : ByteArray} {maxL mc ms n index b : Nat} {ret : Option FieldType} {rm : Room} {As av : List Value} {E : String}
/-- the first row of the method's table takes the thrown object -/
theorem xt_caught {T : State} {q : Addr} {ce : Cell} (X : Stand p l e R s m args below meth c T locs cells slots) (hq : T.heap[q]? = some ce) (hv : ce.vm = .none) (hcl : s.vm.findClass E = some ce.cls) (hown : s.vm.findClass own = some m.cls) {x : ExceptionTableEntry} {suf : List ExceptionTableEntry} (htab : c.exceptionTable.toList = x :: suf) (hx : covers x pc = true) (h0 : x.catchType ≠ 0) (hlink : (Cond.classLink own x.catchType E).before args s = true) (hcast : (Cond.castable E E).before args s = true) :
    ∃ vm', Stand p l e R s m args below meth c (T.setVm vm') locs cells slots ∧ Steps p.tables e below ((T.setTop (F0 m pc ls rest)).pushFrame (.throwing q)) ((T.setVm vm').setTop (F0 m x.handlerPc ls [.ref q])) := by
  have hpl : e.platform.magicAccessors = ({} : Platform).magicAccessors := by rw [X.admits.platform]
  obtain ⟨cE, hcE, hL⟩ := Cond.classLink_spec hown hlink e.platform hpl
  obtain ⟨c3, c4, hc3, hc4, hasg⟩ := Cond.castable_spec hcast
  cases Option.some.inj (hc3.symm.trans hcl)
  cases Option.some.inj (hc4.symm.trans hcl)
  cases Option.some.inj (hcE.symm.trans hcl)
  obtain ⟨dk, _, _, kt, hd, _, _, _, _, hkt, _, hopen⟩ := hL.here
  have hW := X.warmed
  have hW' := hW.noted hd hopen (State.rightAt_cls hL)
  have hLT : T.vm.ClassLinks e.platform m.cls x.catchType ce.cls := hW.classLinks hL
  refine ⟨T.vm.noted m.cls x.catchType (.cls ce.cls), X.noted hW', ?_⟩
  have hal : T.vm.Alike (T.vm.noted m.cls x.catchType (.cls ce.cls)) := (Vm.Alike.refl T.vm).noted _ _ _
  obtain ⟨kt', hkt', -⟩ := hW.alike.2.2 _ _ hkt
  obtain ⟨k2, hk2, -⟩ := hal.2.2 _ _ hkt'
  have hfit : (T.vm.noted m.cls x.catchType (.cls ce.cls)).assignable ce.cls ce.cls = true := by rw [hal.assignable, hW.alike.assignable]; exact hasg
  have hobj : ∀ k, ce.vm ≠ .statics k := fun k h => by rw [hv] at h; cases h
  have hS : ((T.setTop (F0 m pc ls rest)).pushFrame (.throwing q)).vm = T.vm := rfl
  have hfind : ∀ (Q : Handler → Pre) (EP : CtlPost) (d : Bool) (acts : List Action), wp (findHandler (F0 m pc ls rest) q) Q EP e d acts ((T.setTop (F0 m pc ls rest)).pushFrame (.throwing q)) ↔ Q (.found x.handlerPc) d acts (((T.setTop (F0 m pc ls rest)).pushFrame (.throwing q)).setVm (T.vm.noted m.cls x.catchType (.cls ce.cls))) := by
    intro Q EP d acts
    rw [W.findHandler_eq (meth := meth) (code := c) X.method' X.code, htab]
    have hx' := hx
    simp only [covers] at hx'
    obtain ⟨ha, ht⟩ := (resolveClass_links e.toSetting hLT).op (op := VmOp.resolveClass m.cls x.catchType) rfl
    have hq' : ((T.setTop (F0 m pc ls rest)).pushFrame (.throwing q)).heap[q]? = some ce := hq
    simp [findHandler.go, hx', h0, ha, ht, hq', hobj, hk2, hfit, VmOp.dirties, VmOp.acts, hS]
  have hh : At T m c below := X.here
  obtain ⟨hgo, hw⟩ := hh.throwing (g := F0 m pc ls rest) q
  refine Steps.head hgo hw ?_
  obtain ⟨g₀, hg⟩ := Option.isSome_iff_exists.mp hh.top
  obtain ⟨r, hr⟩ := State.topJava?_eq_some.mp hg
  have hstep : (stepThrowing e ((T.setTop (F0 m pc ls rest)).pushFrame (.throwing q)) q (.java (F0 m pc ls rest) :: T.frames.tail)).Is ((((T.setTop (F0 m pc ls rest)).pushFrame (.throwing q)).setVm (T.vm.noted m.cls x.catchType (.cls ce.cls))).setFrames (.java { F0 m pc ls rest with pc := x.handlerPc, stack := [.ref q] } :: T.frames.tail)) [] := by
    simp only [stepThrowing, searchFrame, vmDo]
    generalize hres : Sem.go _ e false [] ((T.setTop (F0 m pc ls rest)).pushFrame (.throwing q)) = res
    obtain ⟨as, rfl, ha⟩ := Sem.eq_ok_of hres (a := Handler.found x.handlerPc) (s' := ((T.setTop (F0 m pc ls rest)).pushFrame (.throwing q)).setVm (T.vm.noted m.cls x.catchType (.cls ce.cls))) (acts' := []) (by simp [hfind _ _ _ _])
    exact ⟨rfl, ha⟩
  rw [stepThread_throwing (frames_entered hh.top _), hstep.1]
  have hr' : (T.setVm (T.vm.noted m.cls x.catchType (.cls ce.cls))).frames = .java g₀ :: r := hr
  have e1 : (((T.setTop (F0 m pc ls rest)).pushFrame (.throwing q)).setVm (T.vm.noted m.cls x.catchType (.cls ce.cls))).setFrames (.java { F0 m pc ls rest with pc := x.handlerPc, stack := [.ref q] } :: T.frames.tail) = (T.setVm (T.vm.noted m.cls x.catchType (.cls ce.cls))).setTop (F0 m x.handlerPc ls [.ref q]) := by
    rw [State.setTop_of_frames _ hr', hr, List.tail_cons, State.pushFrame, State.setTop_of_frames _ hr]
    have e2 : ∀ (u : State) (v : Vm) (A B : List Frame), ((u.setFrames A).setVm v).setFrames B = (u.setVm v).setFrames B := fun u v A B => by
      have e3 : (u.setFrames A).setVm v = (u.setVm v).setFrames A := rfl
      rw [e3, State.setFrames_setFrames]
    rw [e2, e2]
  rw [e1]
  exact Steps.refl _
/-- in a 'try': the called method throws, the first row of the table takes it -/
theorem xt_try (M : CallFix p m c cc nL s args tb own) (hK : gw_K D Hs s) (hI : gw_I D Hs G H0 H locs) (hM : xt_Met l y bytes maxL ret rm D Hs G (.ref b :: As) E mc ms) (k : gk_V y bytes maxL ret n) (hl : Cond.methodLink own index y ∈ tb) (hG : G b = some K) {TT : u_T} {N ci : Nat} (hc : gcl[ci]? = some (y.cls, TT, N)) (hv : ∀ x, K x → ∃ fs, x = .inr (ci, fs)) (hn : As.length = n) (hsize : ls.size = nL) (hst : st = As.reverse ++ .ref b :: rest) (hW : (rest.map fun v => v.category).sum ≤ 8) (hR : gk_R rm R maxL mc ms cells slots) (hdg : decode cc pc = .ok (.invokevirtual index, 3))
    {x : ExceptionTableEntry} {suf : List ExceptionTableEntry} (htab : c.exceptionTable.toList = x :: suf) (hx : covers x pc = true) (h0 : x.catchType ≠ 0) (hlink : Cond.classLink own x.catchType E ∈ tb) (hcast : va_Nw (.castable E E) s)
    (kk : ∀ (q : Nat) (H1 : Heap) (locs1 : List Loc), gw_I D Hs G H0 H1 locs1 → W p l e R s m args below meth c H1 locs1 (cells + mc) (slots + ms) Q (F0 m x.handlerPc ls [.ref q])) : W p l e R s m args below meth c H locs cells slots Q (F0 m pc ls st) := by
  subst hst
  intro T hT X
  obtain ⟨q, T', L, ce, X', hI', hce, hcv, hcl, st1⟩ := xt_core X hT M hK hI hM k hl hG hc hv hn hsize hW hR hdg
  obtain ⟨vm', X2, st2⟩ := xt_caught (ls := ls) (rest := rest) X' hce hcv hcl M.2.2.2.1 htab hx h0 (M.2.2.2.2 _ hlink) (va_Nw.use rfl hcast)
  obtain ⟨t, a1, b1⟩ := kk q T'.heap (locs ++ L) hI' (T'.setVm vm') rfl X2
  exact ⟨t, (st1.trans st2).trans a1, b1⟩
/-- a contract of a method with a table of its own -/
theorem gw_metW {av : List Value} {Qc : Array Value → State → Outcome → State → Prop} {free : Addr → Prop} {hh : List (Nat × Nat × Nat × Nat)} (hy : plainName y.cls = true) (hav : (lg_sl av).length ≤ maxL)
    (body : ∀ (p : Program) (e : Env) (s : State) (m : MethodId) (args : Array Value) (below : List Frame) (meth : Method) (c : Code), CallFix p m c bytes maxL s args tb y.cls → gw_K D Hs s → meth.sig.returnType = ret → meth.locks = false → c.exceptionTable.toList = tableOf hh → gw_I D Hs G s.heap s.heap [] →
      ∀ ls : Array Slot, lv_has ls maxL (lv_args 0 av) → W p l e rm s m args below meth c s.heap [] 0 0 (MQ below Qc args s mc ms free) (F0 m 0 ls [])) : Met l y (Cond.codeWith y bytes maxL ret hh :: tb) rm (gw_Pc D Hs G av) Qc mc ms free := by
  refine va_MetW (cc := bytes) (maxL := maxL) (ret := ret) (hh := hh) hy rfl ?_
  intro p e s m args below meth c s₁ B hml hv
  obtain ⟨rfl, hP, hK⟩ := hv
  have hts0 := atoms_spec (ws := Cond.codeWith y bytes maxL ret hh :: tb) B.pre
  have htab : c.exceptionTable.toList = tableOf hh := by
    obtain ⟨m9, meth9, c9, hn9, h1, h2, -, -, h6, -⟩ := Cond.codeWith_spec (hts0 _ List.mem_cons_self)
    cases Option.some.inj (hn9.symm.trans B.named)
    cases Option.some.inj (h1.symm.trans B.method)
    cases Option.some.inj (h2.symm.trans (Stand.of_body B).code)
    rw [← h6, table_eq]
  have hl := lv_entry av (n := maxL) hav
  rw [lg_entry_eq]
  exact body p e s m _ below meth c ⟨B.exec, B.bytes, hml, findClass_of_methodNamed B.named, fun w h => hts0 w (List.mem_cons_of_mem _ h)⟩ hK B.returns B.notSynchronized htab ⟨hP, va_S.rf⟩ _ hl
/-- a call of such a static method -/
def gk_W (y : MethodName) (bytes : ByteArray) (maxL : Nat) (ret : Option FieldType) (hh : List (Nat × Nat × Nat × Nat)) (n : Nat) : Prop := Cond.static y ∈ tb ∧ Cond.initialized y.cls ∈ tb ∧ Cond.codeWith y bytes maxL ret hh ∈ tb ∧ (y.cls ≠ "java/lang/invoke/MethodHandle" ∧ y.cls ≠ "java/lang/invoke/VarHandle") ∧ (parseMethodDescriptor y.desc).map (fun d => d.parameters.length) = some n
theorem gw_Wi {post : Int32 → gw_G → Prop} {hh : List (Nat × Nat × Nat × Nat)} (M : CallFix p m c cc nL s args tb own) (hK : gw_K D Hs s) (hI : gw_I D Hs G H0 H locs) (hM : Met l y (Cond.codeWith y bytes maxL ret hh :: tb) rm (gw_Pc D Hs G As) (gw_Qi D Hs post) mc ms (gw_A Hs)) (k : gk_W y bytes maxL ret hh n) (hl : Cond.methodLink own index y ∈ tb) (hn : As.length = n) (hsize : ls.size = nL) (hst : st = As.reverse ++ rest) (hW : (rest.map fun v => v.category).sum ≤ 8) (hR : gk_R rm R maxL mc ms cells slots) (hdg : decode cc pc = .ok (.invokestatic index, 3))
    (kk : ∀ (r : Int32) (G1 : gw_G) (H1 : Heap) (locs1 : List Loc), post r G1 → gw_I D Hs G1 H0 H1 locs1 → W p l e R s m args below meth c H1 locs1 (cells + mc) (slots + ms) Q (F0 m (pc + 3) ls (.int r :: rest))) : W p l e R s m args below meth c H locs cells slots Q (F0 m pc ls st) := by
  subst hst
  obtain ⟨k1, k2, k3, k4, k5⟩ := k
  obtain ⟨hx, hb, hml, hown, hts⟩ := id M
  have hws : ∀ w ∈ Cond.codeWith y bytes maxL ret hh :: tb, ∀ (a' : Array Value) (U : State), s.WarmedH U.vm → w.before a' U = true := pay_in hts (tb_gi (fun _ h => h) (fun w hw => by
    rcases List.mem_cons.mp hw with rfl | h
    · exact k3
    · exact h))
  have hBk : Back l R p e below s args y 3 8 (PreOf R mc ms (gw_Pc D Hs G As)) (PostOf (gw_Qi D Hs post) mc ms (gw_A Hs)) := va_backW (hh := hh) (bytes := bytes) (maxL := maxL) (ret := ret) hM gw_Pc.blind hR.1 hR.2.1 hR.2.2.1.1 hR.2.2.1.2 hws List.mem_cons_self (fun a' U hW => word_at hW (Or.inl (by first | rfl | simp [Cond.onTables, Cond.keeps, Cond.steady])) (hts _ k2))
  have hcode := hts _ k3
  refine va_calli (p := p) (A0 := gw_A Hs) (A1 := gw_A Hs) (mc := mc) (ms := ms) (rest := rest) (a := As.toArray) (free := gw_A Hs) (post := post) (B := gw_Bq D Hs) ?_ hI.2 (fun q _ h => h) (fun q h => h) (fun r u t H1 locs1 ht hvm hw hB hz1 hk1 hS => kk r u H1 locs1 hw ⟨by rw [← ht]; exact hB, hS⟩)
  intro T hT X
  obtain ⟨mk, methM, cM, hnamed, hmethM, -, -, -, -, -, -, hsigM⟩ := Cond.codeWith_spec hcode
  have hstatic : methM.isStatic = true := Cond.static_spec hnamed hmethM (hts _ k1)
  obtain ⟨kP, hkP, -⟩ := className_of_methodNamed hnamed
  have hinitP : kP.init = .initialized := Cond.initialized_spec (findClass_of_methodNamed hnamed) hkP (hts _ k2)
  have hlen : As.length = methM.sig.parameters.length := by
    have h2 := k5
    rw [hsigM] at h2
    exact hn.trans (Option.some.inj h2).symm
  obtain ⟨vm₁, X₁, hstep₁⟩ := X.invokestatic hx hown (hts _ hl) hnamed hmethM hstatic hkP hinitP k4 (g := F0 m pc ls (As.reverse ++ rest)) rfl (argsL := As) (rest := rest) hlen rfl (by rw [hb]; exact hdg)
  obtain ⟨v, ⟨U', l2, c2, s2⟩, X', ⟨g', mk', t, L, e1, e2, hq, h1, hL, h2, h3⟩, hsteps⟩ := hBk m meth c ⟨T.setVm vm₁, locs, cells, slots⟩ (F0 m pc ls rest) (.invokestatic index) mk As.toArray X₁ rfl (hsize.trans hml.symm) (by rw [hb]; exact hdg) (lv_room hW) (X₁.named hnamed) ⟨hR.2.2.2.1, hR.2.2.2.2, gw_pre hK hI As (T.setVm vm₁) hT X₁.warmed⟩
  dsimp only [Pt.U, Pt.locs, Pt.cells, Pt.slots] at X' e1 e2 h1 h2 h3 hsteps
  subst h1; subst h2; subst h3
  exact ⟨v, (T.setVm vm₁).calling g' mk' As.toArray, t, U', L, hT, X', hL, e1, e2, hq, fun target h => hstep₁ _ fun acts => by rw [doInvoke_state]; exact hsteps.trans h⟩
end XV
