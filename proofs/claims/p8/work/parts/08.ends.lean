section GWE
variable {p : Program} {l : Launch} {e : Env} {R : Room} {s : State} {m : MethodId} {args : Array Value} {below : List Frame} {meth : Method} {c : Code} {H : Heap} {locs : List Loc} {cells slots : Nat}
variable {cc : ByteArray} {pc nL : Nat} {ls : Array Slot} {own : String} {D : gw_D} {Hs : Heap} {G G1 : gw_G}
theorem gw_iret {v : Int32} {post : Int32 → gw_G → Prop} (M : CallFix p m c cc nL s args tb own) (hr : meth.sig.returnType = some .int) (hlo : meth.locks = false) (hI : gw_I D Hs G1 s.heap H locs) (hdg : decode cc pc = .ok (.ireturn, 1)) (hp : post v G1) :
    W p l e R s m args below meth c H locs cells slots (MQ below (gw_Qi D Hs post) args s cells slots (gw_A Hs)) (F0 m pc ls [.int v]) :=
  W.iret M.1 M.2.1 hr (fun t ht hW => ⟨⟨v, G1, rfl, hp, by show gw_P D Hs G1 t.heap; rw [ht]; exact hI.1⟩, hI.2.F ht⟩) hI.2.2.2 hdg hlo
theorem gw_zret {v : Int32} {post : Int32 → gw_G → Prop} {ty : FieldType} (M : CallFix p m c cc nL s args tb own) (hr : meth.sig.returnType = some ty) (hn : narrow ty (.int v) = .int v) (hlo : meth.locks = false) (hI : gw_I D Hs G1 s.heap H locs) (hdg : decode cc pc = .ok (.ireturn, 1)) (hp : post v G1) :
    W p l e R s m args below meth c H locs cells slots (MQ below (gw_Qi D Hs post) args s cells slots (gw_A Hs)) (F0 m pc ls [.int v]) :=
  W.zret M.1 M.2.1 hr hn (fun t ht hW => ⟨⟨v, G1, rfl, hp, by show gw_P D Hs G1 t.heap; rw [ht]; exact hI.1⟩, hI.2.F ht⟩) hI.2.2.2 hdg hlo
theorem gw_lret {v : Int64} {post : Int64 → gw_G → Prop} (M : CallFix p m c cc nL s args tb own) (hr : meth.sig.returnType = some .long) (hlo : meth.locks = false) (hI : gw_I D Hs G1 s.heap H locs) (hdg : decode cc pc = .ok (.lreturn, 1)) (hp : post v G1) :
    W p l e R s m args below meth c H locs cells slots (MQ below (gw_Ql D Hs post) args s cells slots (gw_A Hs)) (F0 m pc ls [.long v]) :=
  W.lret M.1 M.2.1 hr (fun t ht hW => ⟨⟨v, G1, rfl, hp, by show gw_P D Hs G1 t.heap; rw [ht]; exact hI.1⟩, hI.2.F ht⟩) hI.2.2.2 hdg hlo
theorem gw_vret {post : gw_G → Prop} (M : CallFix p m c cc nL s args tb own) (hr : meth.sig.returnType = none) (hlo : meth.locks = false) (hI : gw_I D Hs G1 s.heap H locs) (hdg : decode cc pc = .ok (.return_, 1)) (hp : post G1) :
    W p l e R s m args below meth c H locs cells slots (MQ below (gw_Qv D Hs post) args s cells slots (gw_A Hs)) (F0 m pc ls []) :=
  W.vret M.1 M.2.1 hr (fun t ht hW => ⟨⟨G1, rfl, hp, by show gw_P D Hs G1 t.heap; rw [ht]; exact hI.1⟩, hI.2.F ht⟩) hI.2.2.2 hdg hlo
theorem gw_aret {v : Nat} {post : Nat → gw_G → Prop} {C : String} (M : CallFix p m c cc nL s args tb own) (hr : meth.sig.returnType = some (.object C)) (hlo : meth.locks = false) (hI : gw_I D Hs G1 s.heap H locs) (hdg : decode cc pc = .ok (.areturn, 1)) (hp : post v G1) :
    W p l e R s m args below meth c H locs cells slots (MQ below (gw_Qr D Hs post) args s cells slots (gw_A Hs)) (F0 m pc ls [.ref v]) :=
  W.aret M.1 M.2.1 hr (Or.inl ⟨_, rfl⟩) (Or.inr ⟨_, rfl⟩) (fun t ht hW => ⟨⟨G1, v, rfl, trivial, by show gw_P D Hs G1 t.heap; rw [ht]; exact hI.1, hp⟩, hI.2.F ht⟩) hI.2.2.2 hdg hlo
/-- a contract out of a walk of the body -/
theorem gw_met {y : MethodName} {bytes : ByteArray} {maxL : Nat} {ret : Option FieldType} {rm : Room} {av : List Value} {Qc : Array Value → State → Outcome → State → Prop} {mc ms : Nat} {free : Addr → Prop} (hy : plainName y.cls = true) (hav : (lg_sl av).length ≤ maxL)
    (body : ∀ (p : Program) (e : Env) (s : State) (m : MethodId) (args : Array Value) (below : List Frame) (meth : Method) (c : Code), CallFix p m c bytes maxL s args tb y.cls → gw_K D Hs s → meth.sig.returnType = ret → meth.locks = false → meth.name = y.name → gw_I D Hs G s.heap s.heap [] →
      ∀ ls : Array Slot, lv_has ls maxL (lv_args 0 av) → W p l e rm s m args below meth c s.heap [] 0 0 (MQ below Qc args s mc ms free) (F0 m 0 ls [])) : Met l y (Cond.code y bytes maxL ret :: tb) rm (gw_Pc D Hs G av) Qc mc ms free := by
  refine Met.ofW (cc := bytes) (maxL := maxL) (ret := ret) hy rfl ?_
  intro p e s m args below meth c s₁ B hml hv
  obtain ⟨rfl, hP, hK⟩ := hv
  have hts0 := atoms_spec (ws := Cond.code y bytes maxL ret :: tb) B.pre
  have hl := lv_entry av (n := maxL) hav
  rw [lg_entry_eq]
  exact body p e s m _ below meth c ⟨B.exec, B.bytes, hml, findClass_of_methodNamed B.named, fun w h => hts0 w (List.mem_cons_of_mem _ h)⟩ hK B.returns B.notSynchronized (name_of_methodNamed B.named B.method).1 ⟨hP, va_S.rf⟩ _ hl
/-- apart, for what they hold differs -/
theorem gw_ne {a b : Nat} {K K' : va_E → Prop} (h1 : G a = some K) (h2 : G b = some K') {x : va_E} (hx : K x) (hn : ¬ K' x) : a ≠ b := by
  intro q
  subst q
  rw [h1] at h2
  cases h2
  exact hn hx
end GWE
/-- what G says but for X, G1 says too -/
def gw_fr (X : Nat → Prop) (G G1 : gw_G) : Prop := ∀ (b : Nat) (K : va_E → Prop), G b = some K → ¬ X b → G1 b = some K
theorem gw_fr.rf {X : Nat → Prop} {G : gw_G} : gw_fr X G G := fun _ _ h _ => h
theorem gw_fr.tr {X : Nat → Prop} {G G1 G2 : gw_G} (h1 : gw_fr X G G1) (h2 : gw_fr X G1 G2) : gw_fr X G G2 := fun b K h q => h2 b K (h1 b K h q) q
theorem gw_fr.up {X : Nat → Prop} {G : gw_G} {a : Nat} {K : va_E → Prop} (h : X a) : gw_fr X G (gw_up G a K) := fun b K' hb q => by
  rw [gw_up_n (fun e => q (by rw [e]; exact h))]; exact hb
theorem gw_fr.new {X : Nat → Prop} {G : gw_G} {a : Nat} {K : va_E → Prop} (h : G a = none) : gw_fr X G (gw_up G a K) := fun b K' hb _ => gw_up_o hb h
theorem gw_fr.le {X Y : Nat → Prop} {G G1 : gw_G} (h : gw_fr X G G1) (hx : ∀ b, X b → Y b) : gw_fr Y G G1 := fun b K hb q => h b K hb (fun x => q (hx b x))
/-- X was not there yet -/
theorem gw_fr.fresh {q : Nat} {X : Nat → Prop} {G G1 G2 : gw_G} (h1 : gw_fr X G G1) (hq : G q = none) (h2 : gw_fr (fun b => b = q) G1 G2) : gw_fr X G G2 := fun b K hb x => h2 b K (h1 b K hb x) (fun e => by rw [e, hq] at hb; cases hb)
theorem gw_I.soft {D : gw_D} {Hs : Heap} {G : gw_G} {H0 H : Heap} {locs : List Loc} {a : Nat} {K K' : va_E → Prop} (h : gw_I D Hs G H0 H locs) (hG : G a = some K) (hk : ∀ e, K e → K' e) : gw_I D Hs (gw_up G a K') H0 H locs := by
  refine ⟨⟨h.1.1, h.1.2.1, fun b Kb hb => ?_⟩, h.2⟩
  by_cases hab : b = a
  · subst hab
    rw [gw_up_s] at hb
    cases hb
    obtain ⟨q1, e, q2, q3⟩ := h.1.2.2 b K hG
    exact ⟨q1, e, hk e q2, q3⟩
  · rw [gw_up_n hab] at hb
    exact h.1.2.2 b Kb hb
