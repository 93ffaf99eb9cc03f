theorem gk_in {w : Cond} (h : w ∈ tb) : w ∈ tb := h
theorem gk_cwV {R : Room} {s : State} {args : Array Value} {own : String} {index : Nat} {y : MethodName} {bytes : ByteArray} {maxL mc ms n : Nat} {ret : Option FieldType} {rm : Room} (ht : ∀ w ∈ tb, w.before args s = true) (hl : Cond.methodLink own index y ∈ tb) (k : gk_V y bytes maxL ret n) (hrc : rm.cells = mc) (hrs : rm.slots = ms) (hR : rm.frames + 1 ≤ R.frames ∧ 8 + (maxL + 11) + rm.locals ≤ R.locals) :
    CallW R s args own y.cls index y bytes maxL ret (Cond.code y bytes maxL ret :: tb) rm mc ms n := by
  obtain ⟨k1, k2, k3, k4, k5, k6⟩ := k
  refine cwV n ht (tb_gi (fun _ h => h) (fun w hw => ?_)) rfl hrc hrs ⟨rfl, k5.1, k5.2, k6⟩ hR
  rcases List.mem_append.mp hw with h | h
  · rcases List.mem_cons.mp h with rfl | h
    · exact hl
    · rcases List.mem_cons.mp h with rfl | h
      · exact k1
      · rcases List.mem_cons.mp h with rfl | h
        · exact k2
        · rcases List.mem_cons.mp h with rfl | h
          · exact k3
          · exact absurd h List.not_mem_nil
  · rcases List.mem_cons.mp h with rfl | h
    · exact k4
    · exact h
theorem gk_cwS {R : Room} {s : State} {args : Array Value} {own : String} {index : Nat} {y : MethodName} {bytes : ByteArray} {maxL mc ms n : Nat} {ret : Option FieldType} {rm : Room} (ht : ∀ w ∈ tb, w.before args s = true) (hl : Cond.methodLink own index y ∈ tb) (k : gk_S y bytes maxL ret n) (hrc : rm.cells = mc) (hrs : rm.slots = ms) (hR : rm.frames + 1 ≤ R.frames ∧ 8 + (maxL + 11) + rm.locals ≤ R.locals) :
    CallB R s args own index y bytes maxL ret (Cond.code y bytes maxL ret :: tb) rm mc ms n ∧ (Cond.static y).before args s = true := by
  obtain ⟨k1, k3, k4, k5, k6⟩ := k
  refine ⟨callB_of n ht (tb_gi (fun _ h => h) (fun w hw => ?_)) rfl hrc hrs (ht _ k3) (ht _ hl) ⟨k5.1, k5.2, k6⟩ hR, ht _ k1⟩
  rcases List.mem_cons.mp hw with rfl | h
  · exact k4
  · exact h
theorem gk_cwI {R : Room} {s : State} {args : Array Value} {own : String} {index : Nat} {y : MethodName} {bytes : ByteArray} {maxL mc ms n : Nat} {rm : Room} (ht : ∀ w ∈ tb, w.before args s = true) (hl : Cond.methodLink own index y ∈ tb) (k : gk_I y bytes maxL n) (hrc : rm.cells = mc) (hrs : rm.slots = ms) (hR : rm.frames + 1 ≤ R.frames ∧ 8 + (maxL + 11) + rm.locals ≤ R.locals) :
    CallB R s args own index y bytes maxL none (Cond.code y bytes maxL none :: tb) rm mc ms n ∧ y.name = "<init>" ∧ (Cond.instanceMethod y).before args s = true := by
  obtain ⟨k1, k2, k3, k4, k5, k6⟩ := k
  refine ⟨callB_of n ht (tb_gi (fun _ h => h) (fun w hw => ?_)) rfl hrc hrs (ht _ k3) (ht _ hl) ⟨k5.1, k5.2, k6⟩ hR, k2, ht _ k1⟩
  rcases List.mem_cons.mp hw with rfl | h
  · exact k4
  · exact h
theorem gk_cwN {R : Room} {s : State} {args : Array Value} {own host : String} {index : Nat} {y : MethodName} {bytes : ByteArray} {maxL mc ms n : Nat} {rm : Room} (ht : ∀ w ∈ tb, w.before args s = true) (hl : va_Nw (.methodLinkNest own index y host) s) (k : gk_I y bytes maxL n) (hrc : rm.cells = mc) (hrs : rm.slots = ms) (hR : rm.frames + 1 ≤ R.frames ∧ 8 + (maxL + 11) + rm.locals ≤ R.locals) :
    va_CN R s args own index y host bytes maxL none (Cond.code y bytes maxL none :: tb) rm mc ms n ∧ y.name = "<init>" ∧ (Cond.instanceMethod y).before args s = true := by
  obtain ⟨k1, k2, k3, k4, k5, k6⟩ := k
  refine ⟨va_cnB n ht (tb_gi (fun _ h => h) (fun w hw => ?_)) rfl hrc hrs hl (ht _ k3) ⟨k5.1, k5.2, k6⟩ hR, k2, ht _ k1⟩
  rcases List.mem_cons.mp hw with rfl | h
  · exact k4
  · exact h
/-- the room that a call needs -/
def gk_R (rm R : Room) (maxL mc ms cells slots : Nat) : Prop := rm.cells = mc ∧ rm.slots = ms ∧ (rm.frames + 1 ≤ R.frames ∧ 8 + (maxL + 11) + rm.locals ≤ R.locals) ∧ (cells + mc ≤ R.cells ∧ slots + ms ≤ R.slots)
section GWC
variable {p : Program} {l : Launch} {e : Env} {R : Room} {s : State} {m : MethodId} {args : Array Value} {below : List Frame} {meth : Method} {c : Code} {H H0 : Heap} {locs : List Loc} {cells slots : Nat} {Q : State → Prop}
variable {cc : ByteArray} {pc nL : Nat} {ls : Array Slot} {rest st : List Value} {a : Nat} {own : String} {D : gw_D} {Hs : Heap} {G : gw_G} {K : va_E → Prop}
variable {y : MethodName} {bytes : ByteArray} {maxL mc ms n index b : Nat} {ret : Option FieldType} {rm : Room} {As : List Value}
theorem gw_recv (hK : gw_K D Hs s) (hI : gw_I D Hs G H0 H locs) (hG : G b = some K) {C : String} {T : u_T} {N ci : Nat} (hc : gcl[ci]? = some (C, T, N)) (hv : ∀ x, K x → ∃ fs, x = .inr (ci, fs)) : ∃ cellB : Cell, H[b]? = some cellB ∧ cellB.vm.isStatics = false ∧ s.vm.findClass C = some cellB.cls := by
  obtain ⟨-, x, hx1, hx2⟩ := hI.1.2.2 b K hG
  obtain ⟨fs, rfl⟩ := hv x hx1
  exact va_recv hK.1 (gw_one hx2) hc (q0 := 0) rfl
theorem gw_pre (hK : gw_K D Hs s) (hI : gw_I D Hs G H0 H locs) (av : List Value) : ∀ U : State, U.heap = H → s.WarmedH U.vm → gw_Pc D Hs G av av.toArray U := fun U hU hW => ⟨rfl, by rw [hU]; exact hI.1, hK.moved hW⟩
theorem gw_Vv {post : gw_G → Prop} (M : CallFix p m c cc nL s args tb own) (hK : gw_K D Hs s) (hI : gw_I D Hs G H0 H locs) (hM : Met l y (Cond.code y bytes maxL ret :: tb) rm (gw_Pc D Hs G (.ref b :: As)) (gw_Qv D Hs post) mc ms (gw_A Hs)) (k : gk_V y bytes maxL ret n) (hl : Cond.methodLink own index y ∈ tb) (hG : G b = some K) {T : u_T} {N ci : Nat} (hc : gcl[ci]? = some (y.cls, T, N)) (hv : ∀ x, K x → ∃ fs, x = .inr (ci, fs)) (hn : As.length = n) (hsize : ls.size = nL) (hst : st = As.reverse ++ .ref b :: rest) (hW : (rest.map fun v => v.category).sum ≤ 8) (hR : gk_R rm R maxL mc ms cells slots) (hdg : decode cc pc = .ok (.invokevirtual index, 3))
    (kk : ∀ (G1 : gw_G) (H1 : Heap) (locs1 : List Loc), post G1 → gw_I D Hs G1 H0 H1 locs1 → W p l e R s m args below meth c H1 locs1 (cells + mc) (slots + ms) Q (F0 m (pc + 3) ls rest)) : W p l e R s m args below meth c H locs cells slots Q (F0 m pc ls st) := by
  subst hst
  exact va_callv (va_runV (As := As) (rest := rest) M hM (gk_cwV M.2.2.2.2 hl k hR.1 hR.2.1 hR.2.2.1) ⟨gw_Pc.blind, gw_recv hK hI hG hc hv, gw_pre hK hI _⟩ rfl hn hsize rfl (lv_room hW) hdg hR.2.2.2) hI.2 (fun q _ h => h) (fun q h => h) (fun u t H1 locs1 ht hvm hw hB hz1 hk1 hS => kk u H1 locs1 hw ⟨by rw [← ht]; exact hB, hS⟩)
theorem gw_Sv {post : gw_G → Prop} (M : CallFix p m c cc nL s args tb own) (hK : gw_K D Hs s) (hI : gw_I D Hs G H0 H locs) (hM : Met l y (Cond.code y bytes maxL ret :: tb) rm (gw_Pc D Hs G As) (gw_Qv D Hs post) mc ms (gw_A Hs)) (k : gk_S y bytes maxL ret n) (hl : Cond.methodLink own index y ∈ tb) (hn : As.length = n) (hsize : ls.size = nL) (hst : st = As.reverse ++ rest) (hW : (rest.map fun v => v.category).sum ≤ 8) (hR : gk_R rm R maxL mc ms cells slots) (hdg : decode cc pc = .ok (.invokestatic index, 3))
    (kk : ∀ (G1 : gw_G) (H1 : Heap) (locs1 : List Loc), post G1 → gw_I D Hs G1 H0 H1 locs1 → W p l e R s m args below meth c H1 locs1 (cells + mc) (slots + ms) Q (F0 m (pc + 3) ls rest)) : W p l e R s m args below meth c H locs cells slots Q (F0 m pc ls st) := by
  subst hst
  exact va_callv (va_runS (As := As) (rest := rest) M hM (gk_cwS M.2.2.2.2 hl k hR.1 hR.2.1 hR.2.2.1) ⟨gw_Pc.blind, gw_pre hK hI _⟩ rfl hn hsize rfl (lv_room hW) hdg hR.2.2.2) hI.2 (fun q _ h => h) (fun q h => h) (fun u t H1 locs1 ht hvm hw hB hz1 hk1 hS => kk u H1 locs1 hw ⟨by rw [← ht]; exact hB, hS⟩)
theorem gw_Iv {post : gw_G → Prop} (M : CallFix p m c cc nL s args tb own) (hK : gw_K D Hs s) (hI : gw_I D Hs G H0 H locs) (hM : Met l y (Cond.code y bytes maxL none :: tb) rm (gw_Pc D Hs G (.ref b :: As)) (gw_Qv D Hs post) mc ms (gw_A Hs)) (k : gk_I y bytes maxL n) (hl : Cond.methodLink own index y ∈ tb) (hn : As.length = n) (hsize : ls.size = nL) (hst : st = As.reverse ++ .ref b :: rest) (hW : (rest.map fun v => v.category).sum ≤ 8) (hR : gk_R rm R maxL mc ms cells slots) (hdg : decode cc pc = .ok (.invokespecial index, 3))
    (kk : ∀ (G1 : gw_G) (H1 : Heap) (locs1 : List Loc), post G1 → gw_I D Hs G1 H0 H1 locs1 → W p l e R s m args below meth c H1 locs1 (cells + mc) (slots + ms) Q (F0 m (pc + 3) ls rest)) : W p l e R s m args below meth c H locs cells slots Q (F0 m pc ls st) := by
  subst hst
  exact va_callv (va_runI (As := As) (rest := rest) M hM (gk_cwI M.2.2.2.2 hl k hR.1 hR.2.1 hR.2.2.1) ⟨gw_Pc.blind, gw_pre hK hI _⟩ rfl hn hsize rfl (lv_room hW) hdg hR.2.2.2) hI.2 (fun q _ h => h) (fun q h => h) (fun u t H1 locs1 ht hvm hw hB hz1 hk1 hS => kk u H1 locs1 hw ⟨by rw [← ht]; exact hB, hS⟩)
theorem gw_Nv {post : gw_G → Prop} {host : String} (M : CallFix p m c cc nL s args tb own) (hK : gw_K D Hs s) (hI : gw_I D Hs G H0 H locs) (hM : Met l y (Cond.code y bytes maxL none :: tb) rm (gw_Pc D Hs G (.ref b :: As)) (gw_Qv D Hs post) mc ms (gw_A Hs)) (k : gk_I y bytes maxL n) (hl : va_Nw (.methodLinkNest own index y host) s) (hn : As.length = n) (hsize : ls.size = nL) (hst : st = As.reverse ++ .ref b :: rest) (hW : (rest.map fun v => v.category).sum ≤ 8) (hR : gk_R rm R maxL mc ms cells slots) (hdg : decode cc pc = .ok (.invokespecial index, 3))
    (kk : ∀ (G1 : gw_G) (H1 : Heap) (locs1 : List Loc), post G1 → gw_I D Hs G1 H0 H1 locs1 → W p l e R s m args below meth c H1 locs1 (cells + mc) (slots + ms) Q (F0 m (pc + 3) ls rest)) : W p l e R s m args below meth c H locs cells slots Q (F0 m pc ls st) := by
  subst hst
  exact va_callv (va_runIN (As := As) (rest := rest) M hM (gk_cwN M.2.2.2.2 hl k hR.1 hR.2.1 hR.2.2.1) ⟨gw_Pc.blind, gw_pre hK hI _⟩ rfl hn hsize rfl (lv_room hW) hdg hR.2.2.2) hI.2 (fun q _ h => h) (fun q h => h) (fun u t H1 locs1 ht hvm hw hB hz1 hk1 hS => kk u H1 locs1 hw ⟨by rw [← ht]; exact hB, hS⟩)
theorem gw_Vi {post : Int32 → gw_G → Prop} (M : CallFix p m c cc nL s args tb own) (hK : gw_K D Hs s) (hI : gw_I D Hs G H0 H locs) (hM : Met l y (Cond.code y bytes maxL ret :: tb) rm (gw_Pc D Hs G (.ref b :: As)) (gw_Qi D Hs post) mc ms (gw_A Hs)) (k : gk_V y bytes maxL ret n) (hl : Cond.methodLink own index y ∈ tb) (hG : G b = some K) {T : u_T} {N ci : Nat} (hc : gcl[ci]? = some (y.cls, T, N)) (hv : ∀ x, K x → ∃ fs, x = .inr (ci, fs)) (hn : As.length = n) (hsize : ls.size = nL) (hst : st = As.reverse ++ .ref b :: rest) (hW : (rest.map fun v => v.category).sum ≤ 8) (hR : gk_R rm R maxL mc ms cells slots) (hdg : decode cc pc = .ok (.invokevirtual index, 3))
    (kk : ∀ (r : Int32) (G1 : gw_G) (H1 : Heap) (locs1 : List Loc), post r G1 → gw_I D Hs G1 H0 H1 locs1 → W p l e R s m args below meth c H1 locs1 (cells + mc) (slots + ms) Q (F0 m (pc + 3) ls (.int r :: rest))) : W p l e R s m args below meth c H locs cells slots Q (F0 m pc ls st) := by
  subst hst
  exact va_calli (va_runV (As := As) (rest := rest) M hM (gk_cwV M.2.2.2.2 hl k hR.1 hR.2.1 hR.2.2.1) ⟨gw_Pc.blind, gw_recv hK hI hG hc hv, gw_pre hK hI _⟩ rfl hn hsize rfl (lv_room hW) hdg hR.2.2.2) hI.2 (fun q _ h => h) (fun q h => h) (fun r u t H1 locs1 ht hvm hw hB hz1 hk1 hS => kk r u H1 locs1 hw ⟨by rw [← ht]; exact hB, hS⟩)
theorem gw_Si {post : Int32 → gw_G → Prop} (M : CallFix p m c cc nL s args tb own) (hK : gw_K D Hs s) (hI : gw_I D Hs G H0 H locs) (hM : Met l y (Cond.code y bytes maxL ret :: tb) rm (gw_Pc D Hs G As) (gw_Qi D Hs post) mc ms (gw_A Hs)) (k : gk_S y bytes maxL ret n) (hl : Cond.methodLink own index y ∈ tb) (hn : As.length = n) (hsize : ls.size = nL) (hst : st = As.reverse ++ rest) (hW : (rest.map fun v => v.category).sum ≤ 8) (hR : gk_R rm R maxL mc ms cells slots) (hdg : decode cc pc = .ok (.invokestatic index, 3))
    (kk : ∀ (r : Int32) (G1 : gw_G) (H1 : Heap) (locs1 : List Loc), post r G1 → gw_I D Hs G1 H0 H1 locs1 → W p l e R s m args below meth c H1 locs1 (cells + mc) (slots + ms) Q (F0 m (pc + 3) ls (.int r :: rest))) : W p l e R s m args below meth c H locs cells slots Q (F0 m pc ls st) := by
  subst hst
  exact va_calli (va_runS (As := As) (rest := rest) M hM (gk_cwS M.2.2.2.2 hl k hR.1 hR.2.1 hR.2.2.1) ⟨gw_Pc.blind, gw_pre hK hI _⟩ rfl hn hsize rfl (lv_room hW) hdg hR.2.2.2) hI.2 (fun q _ h => h) (fun q h => h) (fun r u t H1 locs1 ht hvm hw hB hz1 hk1 hS => kk r u H1 locs1 hw ⟨by rw [← ht]; exact hB, hS⟩)
theorem gw_Vl {post : Int64 → gw_G → Prop} (M : CallFix p m c cc nL s args tb own) (hK : gw_K D Hs s) (hI : gw_I D Hs G H0 H locs) (hM : Met l y (Cond.code y bytes maxL ret :: tb) rm (gw_Pc D Hs G (.ref b :: As)) (gw_Ql D Hs post) mc ms (gw_A Hs)) (k : gk_V y bytes maxL ret n) (hl : Cond.methodLink own index y ∈ tb) (hG : G b = some K) {T : u_T} {N ci : Nat} (hc : gcl[ci]? = some (y.cls, T, N)) (hv : ∀ x, K x → ∃ fs, x = .inr (ci, fs)) (hn : As.length = n) (hsize : ls.size = nL) (hst : st = As.reverse ++ .ref b :: rest) (hW : (rest.map fun v => v.category).sum ≤ 8) (hR : gk_R rm R maxL mc ms cells slots) (hdg : decode cc pc = .ok (.invokevirtual index, 3))
    (kk : ∀ (r : Int64) (G1 : gw_G) (H1 : Heap) (locs1 : List Loc), post r G1 → gw_I D Hs G1 H0 H1 locs1 → W p l e R s m args below meth c H1 locs1 (cells + mc) (slots + ms) Q (F0 m (pc + 3) ls (.long r :: rest))) : W p l e R s m args below meth c H locs cells slots Q (F0 m pc ls st) := by
  subst hst
  exact va_calll (va_runV (As := As) (rest := rest) M hM (gk_cwV M.2.2.2.2 hl k hR.1 hR.2.1 hR.2.2.1) ⟨gw_Pc.blind, gw_recv hK hI hG hc hv, gw_pre hK hI _⟩ rfl hn hsize rfl (lv_room hW) hdg hR.2.2.2) hI.2 (fun q _ h => h) (fun q h => h) (fun r u t H1 locs1 ht hvm hw hB hz1 hk1 hS => kk r u H1 locs1 hw ⟨by rw [← ht]; exact hB, hS⟩)
theorem gw_Sl {post : Int64 → gw_G → Prop} (M : CallFix p m c cc nL s args tb own) (hK : gw_K D Hs s) (hI : gw_I D Hs G H0 H locs) (hM : Met l y (Cond.code y bytes maxL ret :: tb) rm (gw_Pc D Hs G As) (gw_Ql D Hs post) mc ms (gw_A Hs)) (k : gk_S y bytes maxL ret n) (hl : Cond.methodLink own index y ∈ tb) (hn : As.length = n) (hsize : ls.size = nL) (hst : st = As.reverse ++ rest) (hW : (rest.map fun v => v.category).sum ≤ 8) (hR : gk_R rm R maxL mc ms cells slots) (hdg : decode cc pc = .ok (.invokestatic index, 3))
    (kk : ∀ (r : Int64) (G1 : gw_G) (H1 : Heap) (locs1 : List Loc), post r G1 → gw_I D Hs G1 H0 H1 locs1 → W p l e R s m args below meth c H1 locs1 (cells + mc) (slots + ms) Q (F0 m (pc + 3) ls (.long r :: rest))) : W p l e R s m args below meth c H locs cells slots Q (F0 m pc ls st) := by
  subst hst
  exact va_calll (va_runS (As := As) (rest := rest) M hM (gk_cwS M.2.2.2.2 hl k hR.1 hR.2.1 hR.2.2.1) ⟨gw_Pc.blind, gw_pre hK hI _⟩ rfl hn hsize rfl (lv_room hW) hdg hR.2.2.2) hI.2 (fun q _ h => h) (fun q h => h) (fun r u t H1 locs1 ht hvm hw hB hz1 hk1 hS => kk r u H1 locs1 hw ⟨by rw [← ht]; exact hB, hS⟩)
theorem gw_Vr {post : Nat → gw_G → Prop} (M : CallFix p m c cc nL s args tb own) (hK : gw_K D Hs s) (hI : gw_I D Hs G H0 H locs) (hM : Met l y (Cond.code y bytes maxL ret :: tb) rm (gw_Pc D Hs G (.ref b :: As)) (gw_Qr D Hs post) mc ms (gw_A Hs)) (k : gk_V y bytes maxL ret n) (hl : Cond.methodLink own index y ∈ tb) (hG : G b = some K) {T : u_T} {N ci : Nat} (hc : gcl[ci]? = some (y.cls, T, N)) (hv : ∀ x, K x → ∃ fs, x = .inr (ci, fs)) (hn : As.length = n) (hsize : ls.size = nL) (hst : st = As.reverse ++ .ref b :: rest) (hW : (rest.map fun v => v.category).sum ≤ 8) (hR : gk_R rm R maxL mc ms cells slots) (hdg : decode cc pc = .ok (.invokevirtual index, 3))
    (kk : ∀ (r : Nat) (G1 : gw_G) (H1 : Heap) (locs1 : List Loc), post r G1 → gw_I D Hs G1 H0 H1 locs1 → W p l e R s m args below meth c H1 locs1 (cells + mc) (slots + ms) Q (F0 m (pc + 3) ls (.ref r :: rest))) : W p l e R s m args below meth c H locs cells slots Q (F0 m pc ls st) := by
  subst hst
  exact va_callr (va_runV (As := As) (rest := rest) M hM (gk_cwV M.2.2.2.2 hl k hR.1 hR.2.1 hR.2.2.1) ⟨gw_Pc.blind, gw_recv hK hI hG hc hv, gw_pre hK hI _⟩ rfl hn hsize rfl (lv_room hW) hdg hR.2.2.2) hI.2 (fun q _ h => h) (fun q h => h) (fun u r t H1 locs1 ht hvm hw hB hz1 hk1 hS => kk r u H1 locs1 hB.2 ⟨by rw [← ht]; exact hB.1, hS⟩)
theorem gw_Sr {post : Nat → gw_G → Prop} (M : CallFix p m c cc nL s args tb own) (hK : gw_K D Hs s) (hI : gw_I D Hs G H0 H locs) (hM : Met l y (Cond.code y bytes maxL ret :: tb) rm (gw_Pc D Hs G As) (gw_Qr D Hs post) mc ms (gw_A Hs)) (k : gk_S y bytes maxL ret n) (hl : Cond.methodLink own index y ∈ tb) (hn : As.length = n) (hsize : ls.size = nL) (hst : st = As.reverse ++ rest) (hW : (rest.map fun v => v.category).sum ≤ 8) (hR : gk_R rm R maxL mc ms cells slots) (hdg : decode cc pc = .ok (.invokestatic index, 3))
    (kk : ∀ (r : Nat) (G1 : gw_G) (H1 : Heap) (locs1 : List Loc), post r G1 → gw_I D Hs G1 H0 H1 locs1 → W p l e R s m args below meth c H1 locs1 (cells + mc) (slots + ms) Q (F0 m (pc + 3) ls (.ref r :: rest))) : W p l e R s m args below meth c H locs cells slots Q (F0 m pc ls st) := by
  subst hst
  exact va_callr (va_runS (As := As) (rest := rest) M hM (gk_cwS M.2.2.2.2 hl k hR.1 hR.2.1 hR.2.2.1) ⟨gw_Pc.blind, gw_pre hK hI _⟩ rfl hn hsize rfl (lv_room hW) hdg hR.2.2.2) hI.2 (fun q _ h => h) (fun q h => h) (fun u r t H1 locs1 ht hvm hw hB hz1 hk1 hS => kk r u H1 locs1 hB.2 ⟨by rw [← ht]; exact hB.1, hS⟩)
/-- the cipher's static table -/
theorem gw_sub0 (M : CallFix p m c cc nL s args tb own) (hK : gw_K D Hs s) (hI : gw_I D Hs G H0 H locs) (hlink : Cond.fieldLink own index "GuardedPackets$Cipher" "SUB" "[I" ∈ tb) (hdg : decode cc pc = .ok (.getstatic index, 3))
    (kk : ∀ (t : Nat) (f : Nat → Int32), va_T .int t 256 (fun j => .int (f j)) (gw_A Hs) s Hs → W p l e R s m args below meth c H locs cells slots Q (F0 m (pc + 3) ls (.ref t :: rest))) : W p l e R s m args below meth c H locs cells slots Q (F0 m pc ls rest) := by
  obtain ⟨-, -, -, -, -, -, -, t, f, hZ, hT, -⟩ := hK
  obtain ⟨cf, kf, fi, fl, a1, cell, h1, h2, h3, h4, h5, h6, h7, h8⟩ := hZ
  have hlt : a1 < Hs.size := (Array.getElem?_eq_some_iff.mp h5).1
  exact W.gets M.1 M.2.1 M.2.2.2.1 (M.2.2.2.2 _ hlink) h1 h2 h3 h4 (by rw [hI.1.2.1 a1 hlt]; exact h5) (fun e => by rw [e] at h6; cases h6) h7 rfl hdg (kk t f hT)
theorem gw_sub1 (M : CallFix p m c cc nL s args tb own) (hI : gw_I D Hs G H0 H locs) {t : Nat} {f : Nat → Int32} (hT : va_T .int t 256 (fun j => .int (f j)) (gw_A Hs) s Hs) {i : Int32} (hin : vp_in i 256) (hdg : decode cc pc = .ok (.iaload, 1))
    (kk : ∀ x : Int32, W p l e R s m args below meth c H locs cells slots Q (F0 m (pc + 1) ls (.int x :: rest))) : W p l e R s m args below meth c H locs cells slots Q (F0 m pc ls (.int i :: .ref t :: rest)) := by
  obtain ⟨cell, h1, h2, h3, h4, h5, h6, h7⟩ := hT
  have hlt : i.toNatClampNeg < 256 := Nat.not_le.mp fun q => hin (Or.inr q)
  have htl : t < Hs.size := (Array.getElem?_eq_some_iff.mp h1).1
  have hin' : ¬ (i < 0 ∨ cell.slots.size ≤ i.toNatClampNeg) := by
    intro q
    rcases q with q | q
    · exact hin (Or.inl q)
    · omega
  exact W.iald (v := .int (f i.toNatClampNeg)) M.1 M.2.1 (by rw [hI.1.2.1 t htl]; exact h1) h2 h3 hin' (h6 _ hlt) rfl rfl hdg (kk _)
end GWC
