section XW
variable {p : Program} {l : Launch} {e : Env} {R : Room} {s : State} {m : MethodId} {args : Array Value} {below : List Frame} {meth : Method} {c : Code} {H H0 : Heap} {locs : List Loc} {cells slots : Nat} {Q : State → Prop}
variable {cc : ByteArray} {pc nL : Nat} {ls : Array Slot} {rest st : List Value} {own : String} {D : gw_D} {Hs : Heap} {G : gw_G} {K : va_E → Prop}
variable {y : MethodName} {bytes : ByteArray} {maxL mc ms n index b : Nat} {ret : Option FieldType} {rm : Room} {As av : List Value} {E E1 : String}
/-- the first row of the method's table does not take the thrown object, the second does -/
theorem xt_caught2 {T : State} {q : Addr} {ce : Cell} (X : Stand p l e R s m args below meth c T locs cells slots) (hq : T.heap[q]? = some ce) (hv : ce.vm = .none) (hcl : s.vm.findClass E = some ce.cls) (hown : s.vm.findClass own = some m.cls) {x1 x2 : ExceptionTableEntry} {suf : List ExceptionTableEntry} (htab : c.exceptionTable.toList = x1 :: x2 :: suf) (hx1 : covers x1 pc = true) (hx2 : covers x2 pc = true) (h01 : x1.catchType ≠ 0) (h02 : x2.catchType ≠ 0) (hlink1 : (Cond.classLink own x1.catchType E1).before args s = true) (hlink2 : (Cond.classLink own x2.catchType E).before args s = true) (hcast : (Cond.castable E E).before args s = true) (hnc : xt_N E E1 s) :
    ∃ vm', Stand p l e R s m args below meth c (T.setVm vm') locs cells slots ∧ Steps p.tables e below ((T.setTop (F0 m pc ls rest)).pushFrame (.throwing q)) ((T.setVm vm').setTop (F0 m x2.handlerPc ls [.ref q])) := by
  have hpl : e.platform.magicAccessors = ({} : Platform).magicAccessors := by rw [X.admits.platform]
  obtain ⟨c1, hc1, hL1⟩ := Cond.classLink_spec hown hlink1 e.platform hpl
  obtain ⟨cE, hcE, hL2⟩ := Cond.classLink_spec hown hlink2 e.platform hpl
  obtain ⟨c3, c4, hc3, hc4, hasg⟩ := Cond.castable_spec hcast
  obtain ⟨na, nb, hna, hnb, hnas⟩ := hnc
  cases Option.some.inj (hc3.symm.trans hcl)
  cases Option.some.inj (hc4.symm.trans hcl)
  cases Option.some.inj (hcE.symm.trans hcl)
  cases Option.some.inj (hna.symm.trans hcl)
  cases Option.some.inj (hnb.symm.trans hc1)
  obtain ⟨dk, _, _, kt1, hd, _, _, _, _, hkt1, _, hopen⟩ := hL1.here
  have hW := X.warmed
  have hW' := hW.noted hd hopen (State.rightAt_cls hL1)
  have hLT1 : T.vm.ClassLinks e.platform m.cls x1.catchType c1 := hW.classLinks hL1
  have hal1 : T.vm.Alike (T.vm.noted m.cls x1.catchType (.cls c1)) := (Vm.Alike.refl T.vm).noted _ _ _
  obtain ⟨k1', hk1', -⟩ := hW.alike.2.2 _ _ hkt1
  obtain ⟨k1, hk1, -⟩ := hal1.2.2 _ _ hk1'
  have hno : (T.vm.noted m.cls x1.catchType (.cls c1)).assignable ce.cls c1 = false := by rw [hal1.assignable, hW.alike.assignable]; exact hnas
  generalize hvm1 : T.vm.noted m.cls x1.catchType (.cls c1) = vm1 at *
  have X1 : Stand p l e R s m args below meth c (T.setVm vm1) locs cells slots := by rw [← hvm1]; exact X.noted (by rw [hvm1]; exact hW')
  have hW1 := X1.warmed
  obtain ⟨dk2, _, _, kt2, hd2, _, _, _, _, hkt2, _, hopen2⟩ := hL2.here
  have hW2 := hW1.noted hd2 hopen2 (State.rightAt_cls hL2)
  have hLT2 : vm1.ClassLinks e.platform m.cls x2.catchType ce.cls := hW1.classLinks hL2
  have X2 : Stand p l e R s m args below meth c ((T.setVm vm1).setVm (vm1.noted m.cls x2.catchType (.cls ce.cls))) locs cells slots := X1.noted hW2
  refine ⟨vm1.noted m.cls x2.catchType (.cls ce.cls), X2, ?_⟩
  have hal : vm1.Alike (vm1.noted m.cls x2.catchType (.cls ce.cls)) := (Vm.Alike.refl vm1).noted _ _ _
  obtain ⟨kt', hkt', -⟩ := hW1.alike.2.2 _ _ hkt2
  obtain ⟨k2, hk2, -⟩ := hal.2.2 _ _ hkt'
  have h5 : (T.setVm vm1).vm.assignable ce.cls ce.cls = true := by rw [hW1.alike.assignable]; exact hasg
  have hfit : (vm1.noted m.cls x2.catchType (.cls ce.cls)).assignable ce.cls ce.cls = true := by rw [hal.assignable]; exact h5
  have hkE : vm1.classes[ce.cls]? = some kt' := hkt'
  have hobj : ∀ k, ce.vm ≠ .statics k := fun k h => by rw [hv] at h; cases h
  have hS : ((T.setTop (F0 m pc ls rest)).pushFrame (.throwing q)).vm = T.vm := rfl
  have hfind : ∀ (Q : Handler → Pre) (EP : CtlPost) (d : Bool) (acts : List Action), wp (findHandler (F0 m pc ls rest) q) Q EP e d acts ((T.setTop (F0 m pc ls rest)).pushFrame (.throwing q)) ↔ Q (.found x2.handlerPc) d acts (((T.setTop (F0 m pc ls rest)).pushFrame (.throwing q)).setVm (vm1.noted m.cls x2.catchType (.cls ce.cls))) := by
    intro Q EP d acts
    rw [W.findHandler_eq (meth := meth) (code := c) X.method' X.code, htab]
    have hx1' := hx1
    have hx2' := hx2
    simp only [covers] at hx1' hx2'
    obtain ⟨ha1, ht1⟩ := (resolveClass_links e.toSetting hLT1).op (op := VmOp.resolveClass m.cls x1.catchType) rfl
    obtain ⟨ha2, ht2⟩ := (resolveClass_links e.toSetting hLT2).op (op := VmOp.resolveClass m.cls x2.catchType) rfl
    rw [hvm1] at ht1
    have hl1 : (VmOp.resolveClass m.cls x1.catchType).lands e ((T.setTop (F0 m pc ls rest)).pushFrame (.throwing q)) = .done (((T.setTop (F0 m pc ls rest)).pushFrame (.throwing q)).setVm vm1) := VmOp.lands_eq (s := (T.setTop (F0 m pc ls rest)).pushFrame (.throwing q)) ht1 hal1.size_le
    have hl2 : (VmOp.resolveClass m.cls x2.catchType).lands e (((T.setTop (F0 m pc ls rest)).pushFrame (.throwing q)).setVm vm1) = .done ((((T.setTop (F0 m pc ls rest)).pushFrame (.throwing q)).setVm vm1).setVm (vm1.noted m.cls x2.catchType (.cls ce.cls))) := VmOp.lands_eq (s := ((T.setTop (F0 m pc ls rest)).pushFrame (.throwing q)).setVm vm1) ht2 hal.size_le
    have hq' : ((T.setTop (F0 m pc ls rest)).pushFrame (.throwing q)).heap[q]? = some ce := hq
    simp [findHandler.go, hx1', hx2', h01, h02, ha1, hl1, ha2, hl2, hq', hobj, hkE, hk1, hk2, hno, hfit, VmOp.dirties, VmOp.acts, hS]
    exact Iff.rfl
  have hh : At T m c below := X.here
  obtain ⟨hgo, hw⟩ := hh.throwing (g := F0 m pc ls rest) q
  refine Steps.head hgo hw ?_
  obtain ⟨g₀, hg⟩ := Option.isSome_iff_exists.mp hh.top
  obtain ⟨r, hr⟩ := State.topJava?_eq_some.mp hg
  generalize hvm2 : vm1.noted m.cls x2.catchType (.cls ce.cls) = vm2 at *
  have hstep : (stepThrowing e ((T.setTop (F0 m pc ls rest)).pushFrame (.throwing q)) q (.java (F0 m pc ls rest) :: T.frames.tail)).Is ((((T.setTop (F0 m pc ls rest)).pushFrame (.throwing q)).setVm vm2).setFrames (.java { F0 m pc ls rest with pc := x2.handlerPc, stack := [.ref q] } :: T.frames.tail)) [] := by
    simp only [stepThrowing, searchFrame, vmDo]
    generalize hres : Sem.go _ e false [] ((T.setTop (F0 m pc ls rest)).pushFrame (.throwing q)) = res
    obtain ⟨as, rfl, ha⟩ := Sem.eq_ok_of hres (a := Handler.found x2.handlerPc) (s' := ((T.setTop (F0 m pc ls rest)).pushFrame (.throwing q)).setVm vm2) (acts' := []) (by simp [hfind _ _ _ _])
    exact ⟨rfl, ha⟩
  rw [stepThread_throwing (frames_entered hh.top _), hstep.1]
  have hr' : (T.setVm vm2).frames = .java g₀ :: r := hr
  have e1 : (((T.setTop (F0 m pc ls rest)).pushFrame (.throwing q)).setVm vm2).setFrames (.java { F0 m pc ls rest with pc := x2.handlerPc, stack := [.ref q] } :: T.frames.tail) = (T.setVm vm2).setTop (F0 m x2.handlerPc ls [.ref q]) := by
    rw [State.setTop_of_frames _ hr', hr, List.tail_cons, State.pushFrame, State.setTop_of_frames _ hr]
    have e2 : ∀ (u : State) (v : Vm) (A B : List Frame), ((u.setFrames A).setVm v).setFrames B = (u.setVm v).setFrames B := fun u v A B => by
      have e3 : (u.setFrames A).setVm v = (u.setVm v).setFrames A := rfl
      rw [e3, State.setFrames_setFrames]
    rw [e2, e2]
  rw [e1]
  exact Steps.refl _
theorem xt_try2 (M : CallFix p m c cc nL s args tb own) (hK : gw_K D Hs s) (hI : gw_I D Hs G H0 H locs) (hM : xt_Met l y bytes maxL ret rm D Hs G (.ref b :: As) E mc ms) (k : gk_V y bytes maxL ret n) (hl : Cond.methodLink own index y ∈ tb) (hG : G b = some K) {TT : u_T} {N ci : Nat} (hc : gcl[ci]? = some (y.cls, TT, N)) (hv : ∀ x, K x → ∃ fs, x = .inr (ci, fs)) (hn : As.length = n) (hsize : ls.size = nL) (hst : st = As.reverse ++ .ref b :: rest) (hW : (rest.map fun v => v.category).sum ≤ 8) (hR : gk_R rm R maxL mc ms cells slots) (hdg : decode cc pc = .ok (.invokevirtual index, 3))
    {x1 x2 : ExceptionTableEntry} {suf : List ExceptionTableEntry} (htab : c.exceptionTable.toList = x1 :: x2 :: suf) (hx1 : covers x1 pc = true) (hx2 : covers x2 pc = true) (h01 : x1.catchType ≠ 0) (h02 : x2.catchType ≠ 0) (hlink1 : Cond.classLink own x1.catchType E1 ∈ tb) (hlink2 : Cond.classLink own x2.catchType E ∈ tb) (hcast : va_Nw (.castable E E) s) (hnc : xt_N E E1 s)
    (kk : ∀ (q : Nat) (H1 : Heap) (locs1 : List Loc), gw_I D Hs G H0 H1 locs1 → W p l e R s m args below meth c H1 locs1 (cells + mc) (slots + ms) Q (F0 m x2.handlerPc ls [.ref q])) : W p l e R s m args below meth c H locs cells slots Q (F0 m pc ls st) := by
  subst hst
  intro T hT X
  obtain ⟨q, T', L, ce, X', hI', hce, hcv, hcl, st1⟩ := xt_core X hT M hK hI hM k hl hG hc hv hn hsize hW hR hdg
  obtain ⟨vm', X2, st2⟩ := xt_caught2 (ls := ls) (rest := rest) X' hce hcv hcl M.2.2.2.1 htab hx1 hx2 h01 h02 (M.2.2.2.2 _ hlink1) (M.2.2.2.2 _ hlink2) (va_Nw.use rfl hcast) hnc
  obtain ⟨t, a1, b1⟩ := kk q T'.heap (locs ++ L) hI' (T'.setVm vm') rfl X2
  exact ⟨t, (st1.trans st2).trans a1, b1⟩
end XW
