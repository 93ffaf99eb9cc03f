section XU
variable {p : Program} {l : Launch} {e : Env} {R : Room} {s : State} {m : MethodId} {args : Array Value} {below : List Frame} {meth : Method} {c : Code} {H H0 : Heap} {locs : List Loc} {cells slots : Nat} {Q : State → Prop}
variable {cc : ByteArray} {pc nL : Nat} {ls : Array Slot} {rest st : List Value} {own : String} {D : gw_D} {Hs : Heap} {G : gw_G} {K : va_E → Prop}
variable {y : MethodName} {bytes : ByteArray} {maxL mc ms n index b : Nat} {ret : Option FieldType} {rm : Room} {As av : List Value} {E : String}
/-- a call of a method that throws: the frame g of the caller, the thrown object over it -/
theorem xt_core {T : State} (X : Stand p l e R s m args below meth c T locs cells slots) (hT : T.heap = H) (M : CallFix p m c cc nL s args tb own) (hK : gw_K D Hs s) (hI : gw_I D Hs G H0 H locs) (hM : xt_Met l y bytes maxL ret rm D Hs G (.ref b :: As) E mc ms) (k : gk_V y bytes maxL ret n) (hl : Cond.methodLink own index y ∈ tb) (hG : G b = some K) {TT : u_T} {N ci : Nat} (hc : gcl[ci]? = some (y.cls, TT, N)) (hv : ∀ x, K x → ∃ fs, x = .inr (ci, fs)) (hn : As.length = n) (hsize : ls.size = nL) (hW : (rest.map fun v => v.category).sum ≤ 8) (hR : gk_R rm R maxL mc ms cells slots) (hdg : decode cc pc = .ok (.invokevirtual index, 3)) :
    ∃ (q : Addr) (T' : State) (L : List Loc) (ce : Cell), Stand p l e R s m args below meth c T' (locs ++ L) (cells + mc) (slots + ms) ∧ gw_I D Hs G H0 T'.heap (locs ++ L) ∧ T'.heap[q]? = some ce ∧ ce.vm = .none ∧ s.vm.findClass E = some ce.cls ∧
      Steps p.tables e below (T.setTop (F0 m pc ls (As.reverse ++ .ref b :: rest))) ((T'.setTop (F0 m pc ls rest)).pushFrame (.throwing q)) := by
  have cw := gk_cwV (R := R) (rm := rm) (mc := mc) (ms := ms) M.2.2.2.2 hl k hR.1 hR.2.1 hR.2.2.1
  obtain ⟨⟨hrc, hrs, hfr, hlo, hws, hcw, hcode, hini, hy, hlen, hlk⟩, hin, hse⟩ := cw
  obtain ⟨hx, hb, hml, hown, hts⟩ := id M
  obtain ⟨cellB, hcB, hoB, hclB⟩ := gw_recv hK hI hG hc hv
  obtain ⟨mk, methM, hnamed, hmethM, hstM, habM⟩ := Cond.instanceMethod_spec hin
  obtain ⟨methM', cM, hmethM', -, -, -, -, -, -, hsigM⟩ := Cond.code_spec hnamed hcode
  cases hmethM.symm.trans hmethM'
  obtain ⟨c2, r2, m2, q1, q2, q3, q4, kP, hkP, hkPi⟩ := Cond.selects_spec hse
  cases hclB.symm.trans q1
  cases (State.methodFound?_of_named hnamed hy).symm.trans q2
  cases hnamed.symm.trans q3
  have hselP : selectMethod e.platform s.vm cellB.cls mk = .method mk := by rw [Launch.admits_selectMethod X.admits]; exact q4
  obtain ⟨vm₁, X₁, hstep₁⟩ := X.invokevirtual hx hown hlk hnamed hmethM hstM hkP hkPi hy (a := b) (cell := cellB) (by rw [hT]; exact hcB)
    (fun z h => by rw [h] at hoB; cases hoB) hselP hmethM habM hkP hkPi (g := F0 m pc ls (As.reverse ++ .ref b :: rest)) rfl (argsL := As) (rest := rest) (hn.trans (hlen _ hsigM)) rfl (by rw [hb]; exact hdg)
  obtain ⟨U, hU⟩ : ∃ z, z = T.setVm vm₁ := ⟨_, rfl⟩
  rw [← hU] at X₁ hstep₁
  have hUH : U.heap = H := by rw [hU]; exact hT
  have hpc : decode c.code (F0 m pc ls rest).pc = .ok (.invokevirtual index, 3) := by rw [hb]; exact hdg
  have hnU : U.methodNamed? y = some mk := X₁.named hnamed
  have h1 : (headSpec (Cond.code y bytes maxL ret :: tb) rm).pre.before (Value.ref b :: As).toArray U = true := atoms_intro fun w hw => hws w hw _ _ X₁.warmed
  have h2 : (Cond.code y bytes maxL ret).before (Value.ref b :: As).toArray U = true := hws _ hcw _ _ X₁.warmed
  have h3 : (Cond.initialized y.cls).before (Value.ref b :: As).toArray U = true := word_at X₁.warmed (Or.inl (by first | rfl | simp [Cond.onTables, Cond.keeps, Cond.steady])) hini
  obtain ⟨methY, cY, hmY, hcY, -, hlY, -, -, -, -⟩ := Cond.code_spec hnU h2
  obtain ⟨kY, hkY, -⟩ := className_of_methodNamed hnU
  have hinitY : kY.init = .initialized := Cond.initialized_spec (findClass_of_methodNamed hnU) hkY h3
  have h : At U (F0 m pc ls rest).method c below := X₁.here
  have happ : (headSpec (Cond.code y bytes maxL ret :: tb) rm).appliesLoose y e.platform (U.calling (F0 m pc ls rest) mk (Value.ref b :: As).toArray) = true :=
    Spec.appliesLoose_calling (g := F0 m pc ls rest) h hpc hnU hkY hinitY
      (X₁.room_calling (g := F0 m pc ls rest) (R' := rm) (hsize.trans hml.symm) hmY hcY hfr (by have h8 := lv_room (m := m) (pc := pc) (ls := ls) (rest := rest) hW; have h9 : ((F0 m pc ls rest).stack.map fun v => v.category).sum = (rest.map fun v => v.category).sum := rfl; rw [hlY]; omega) (by rw [hrc]; exact hR.2.2.2.1) (by rw [hrs]; exact hR.2.2.2.2)) h1
  have hPc : gw_Pc D Hs G (.ref b :: As) (Value.ref b :: As).toArray (U.calling (F0 m pc ls rest) mk (Value.ref b :: As).toArray) := gw_Pc.blind _ _ _ _ (gw_pre hK hI (.ref b :: As) U hUH X₁.warmed)
  obtain ⟨mid, hmid⟩ := h.above
  have hfrm : (U.setTop (F0 m pc ls rest)).frames = (.java (F0 m pc ls rest) :: mid) ++ below := by rw [State.frames_setTop' _ h.top, hmid]; rfl
  obtain ⟨o, s₂, hsteps, -, hend, hq⟩ := Steps.callFree hM p X₁.admits X₁.cas X₁.clock (acts := []) hfrm happ hPc trivial
  obtain ⟨q, rfl, ce, L, hP2, hF2, hce, hcv, hcl, hW2, hsm, hL⟩ := (show xt_Q D Hs G E mc ms _ (U.calling (F0 m pc ls rest) mk (Value.ref b :: As).toArray) o s₂ from hq)
  rw [State.frames_setTop' _ h.top] at hend
  obtain ⟨g₀, hg0⟩ := Option.isSome_iff_exists.mp h.top
  obtain ⟨r, hr⟩ := State.topJava?_eq_some.mp hg0
  have hr' : (({ U with heap := s₂.heap, slotsUsed := s₂.slotsUsed } : State).setVm s₂.vm).frames = .java g₀ :: r := hr
  obtain ⟨e2, q2', q3', q4', q5', q6'⟩ := id hsm
  have e3 : s₂ = ({ (U.calling (F0 m pc ls rest) mk (Value.ref b :: As).toArray).setFrames s₂.frames with heap := s₂.heap, slotsUsed := s₂.slotsUsed } : State).setVm s₂.vm := by
    have h9 : s₂ = ({ s₂ with vm := (U.calling (F0 m pc ls rest) mk (Value.ref b :: As).toArray).vm } : State).setVm s₂.vm := rfl
    rw [e2] at h9
    exact h9
  have hf₂ : s₂.frames = .throwing q :: .java (F0 m pc ls rest) :: U.frames.tail := hend
  have hW' : U.WarmedH s₂.vm := hW2
  have hs₂ : s₂ = ((({ U with heap := s₂.heap, slotsUsed := s₂.slotsUsed } : State).setVm s₂.vm).setTop (F0 m pc ls rest)).pushFrame (.throwing q) := by
    refine e3.trans ?_
    rw [hf₂, State.calling_eq h.top, State.setFrames_setFrames, State.pushFrame, State.frames_setTop _ hr', State.setTop_of_frames _ hr', State.setFrames_setFrames, hr]
    rfl
  have hsame : U.sameButNew ({ U with heap := s₂.heap, slotsUsed := s₂.slotsUsed } : State) L mc ms := by
    refine ⟨?_, q2', q3', q4', q5', q6'⟩
    obtain ⟨t, ht, -⟩ := State.frames_cons hr
    show ({ U with heap := s₂.heap, slotsUsed := s₂.slotsUsed } : State) = { U.setFrames U.frames with heap := s₂.heap, slotsUsed := s₂.slotsUsed }
    rw [State.setFrames_self ht]
  have hU2 : va_F (gw_A Hs) U s₂ := hF2
  refine ⟨q, (({ U with heap := s₂.heap, slotsUsed := s₂.slotsUsed } : State).setVm s₂.vm), L, ce,
    ⟨X₁.admits, X₁.cas, X₁.clock, X₁.frames, X₁.room, X₁.hears, X₁.method, X₁.code, (X₁.here.setHeapUsed s₂.heap s₂.slotsUsed).setVm hW'.alike, X₁.tail, State.WarmedH.trans X₁.warmed hW', X₁.limits, X₁.bytes, X₁.same.trans (hsame.setVm s.vm)⟩, ⟨hP2, ?_⟩, hce, hcv, ?_, ?_⟩
  · obtain ⟨f1, f2⟩ := hU2
    rw [hUH] at f1 f2
    refine ⟨Nat.le_trans hI.2.1 f1, fun z h4 h5 => ?_, fun z hz => ?_⟩
    · show s₂.heap[z]? = _
      rw [f2 z (Nat.lt_of_lt_of_le h4 hI.2.1) h5]; exact hI.2.2.1 z h4 h5
    · rcases List.mem_append.mp hz with h4 | h4
      · exact hI.2.2.2 z h4
      · exact hL z h4
  · have h4 : U.vm.findClass E = some ce.cls := hcl
    rw [hU] at h4
    have h5 : vm₁.findClass E = some ce.cls := h4
    have hWv : s.WarmedH vm₁ := by have h6 := X₁.warmed; rw [hU] at h6; exact h6
    rw [hWv.alike.findClass] at h5
    exact h5
  · refine hstep₁ _ fun acts => ?_
    rw [doInvoke_state, ← hs₂]
    exact hsteps
/-- the called method throws, and so does this one -/
theorem xt_out (M : CallFix p m c cc nL s args tb own) (hK : gw_K D Hs s) (hI : gw_I D Hs G s.heap H locs) (hlo : meth.locks = false) (hex : ∀ x ∈ c.exceptionTable.toList, False) (hM : xt_Met l y bytes maxL ret rm D Hs G (.ref b :: As) E mc ms) (k : gk_V y bytes maxL ret n) (hl : Cond.methodLink own index y ∈ tb) (hG : G b = some K) {TT : u_T} {N ci : Nat} (hc : gcl[ci]? = some (y.cls, TT, N)) (hv : ∀ x, K x → ∃ fs, x = .inr (ci, fs)) (hn : As.length = n) (hsize : ls.size = nL) (hst : st = As.reverse ++ .ref b :: rest) (hW : (rest.map fun v => v.category).sum ≤ 8) (hR : gk_R rm R maxL mc ms 0 0) (hdg : decode cc pc = .ok (.invokevirtual index, 3)) :
    W p l e R s m args below meth c H locs 0 0 (xt_M below D Hs G E args s mc ms) (F0 m pc ls st) := by
  subst hst
  intro T hT X
  obtain ⟨q, T', L, ce, X', hI', hce, hcv, hcl, st1⟩ := xt_core X hT M hK hI hM k hl hG hc hv hn hsize hW hR hdg
  obtain ⟨st2, hrun, hend, hWm, hsm⟩ := X'.leaveThrown q (g := F0 m pc ls rest) rfl rfl rfl (fun x hx => (hex x hx).elim) hlo
  refine ⟨_, st1.trans st2, .threw q, hrun, hend, q, rfl, ce, locs ++ L, hI'.1, ?_, hce, hcv, hcl, hWm, by rw [Nat.zero_add, Nat.zero_add] at hsm; exact hsm, hI'.2.2.2⟩
  exact ⟨hI'.2.1, hI'.2.2.1⟩
end XU
