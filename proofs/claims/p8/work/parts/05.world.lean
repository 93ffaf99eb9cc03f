/-! a world by addresses: at most one kind an address -/
abbrev gw_D : Type := va_G × (Nat → ClassId)
abbrev gw_G : Type := Nat → Option (va_E → Prop)
def gw_up (G : gw_G) (a : Nat) (K : va_E → Prop) : gw_G := fun q => if q = a then some K else G q
theorem gw_up_s {G : gw_G} {a : Nat} {K : va_E → Prop} : gw_up G a K a = some K := by simp [gw_up]
theorem gw_up_n {G : gw_G} {a b : Nat} {K : va_E → Prop} (h : b ≠ a) : gw_up G a K b = G b := by simp [gw_up, h]
theorem gw_up_o {G : gw_G} {a b : Nat} {K K' : va_E → Prop} (h : G b = some K') (hn : G a = none) : gw_up G a K b = some K' := by
  rw [gw_up_n (fun q => by subst q; rw [h] at hn; cases hn)]; exact h
def gw_at (D : gw_D) (a : Nat) (e : va_E) (H : Heap) : Prop := va_at D.1 gcl (a, e) H
/-- H is Hs with more behind it; every address with a kind holds what the kind says -/
def gw_P (D : gw_D) (Hs : Heap) (G : gw_G) (H : Heap) : Prop := (Hs.size ≤ H.size ∧ ∀ (a : Nat) (cell : Cell), Hs.size ≤ a → H[a]? = some cell → cell.vm.isStatics = false) ∧ (∀ q : Nat, q < Hs.size → H[q]? = Hs[q]?) ∧ ∀ (a : Nat) (K : va_E → Prop), G a = some K → Hs.size ≤ a ∧ ∃ e : va_E, K e ∧ gw_at D a e H
def gw_A (Hs : Heap) : Nat → Prop := fun q => Hs.size ≤ q
def gw_I (D : gw_D) (Hs : Heap) (G : gw_G) (H0 H : Heap) (locs : List Loc) : Prop := gw_P D Hs G H ∧ va_S (gw_A Hs) H0 H locs
abbrev gw_ty (D : gw_D) : List (ClassId × FieldType) := [(D.2 0, .int), (D.2 1, .byte), (D.2 2, .boolean), (D.2 3, .long), (D.2 4, .object R_As), (D.2 5, .object R_Ro)]
/-- a static field of the exceptions' class: where it lies in Hs, what it holds -/
def xs_F (n d : String) (Hs : Heap) (U : State) : Prop := ∃ (c : ClassId) (k : Class) (i : Nat) (f : Field) (a : Nat) (cell : Cell) (v : Value), U.vm.findClass Bundle.tN = some c ∧ U.fieldFound? Bundle.tN n d = some (c, k, i, f) ∧ f.isStatic = true ∧ k.statics = some a ∧ Hs[a]? = some cell ∧ cell.vm.isStatics = true ∧ cell.cls = c ∧ f.slot < cell.slots.size ∧ k.staticTypes[f.slot]? = some f.type ∧ cell.slots[f.slot]? = some v ∧ v.isRef = true
theorem xs_F.moved {n d : String} {Hs : Heap} {u U : State} (hvm : u.vm.Alike U.vm) (h : xs_F n d Hs u) : xs_F n d Hs U := by
  obtain ⟨c, k, i, f, a, cell, v, h1, h2, h3, h4, h5, h6, h7, h8, h9, h10⟩ := h
  obtain ⟨k', hi', he⟩ := State.fieldFound?_setVm hvm h2
  exact ⟨c, k', i, f, a, cell, v, by rw [hvm.findClass]; exact h1, hi', h3, by rw [he]; exact h4, h5, h6, h7, h8, by rw [he]; exact h9, h10⟩
theorem xs_F.lay {n d : String} {Hs : Heap} {s : State} {args : Array Value} (h : xs_F n d Hs s) (hk : ∀ q : Nat, q < Hs.size → s.heap[q]? = Hs[q]?) : (Cond.laysStatic Bundle.tN n d).before args s = true := by
  obtain ⟨c, k, i, f, a, cell, v, h1, h2, h3, h4, h5, h6, h7, h8, h9, -⟩ := h
  have h5' : s.heap[a]? = some cell := by rw [hk a (Array.getElem?_eq_some_iff.mp h5).1]; exact h5
  exact Cond.laysStatic_of h1 h2 h3 h4 h5' h6 h7 h8 h9
theorem xs_F.ref {n d : String} {Hs : Heap} {s : State} {args : Array Value} (h : xs_F n d Hs s) (hk : ∀ q : Nat, q < Hs.size → s.heap[q]? = Hs[q]?) : (Cond.isRef (.static Bundle.tN n d)).before args s = true := by
  obtain ⟨c, k, i, f, a, cell, v, h1, h2, h3, h4, h5, h6, h7, h8, h9, h10, h11⟩ := h
  have h5' : s.heap[a]? = some cell := by rw [hk a (Array.getElem?_eq_some_iff.mp h5).1]; exact h5
  have he : (Term.static Bundle.tN n d).eval args s none [] s = some v := by
    simp [Term.eval, State.fieldNamed?, h2, h3, h4, h5', h6, h10]
  simp only [Cond.before, Cond.holds, Cond.value, he]
  cases v <;> simp_all [Value.isRef]
theorem xs_F.of {n d : String} {s : State} {args : Array Value} (hl : (Cond.laysStatic Bundle.tN n d).before args s = true) (hr : (Cond.isRef (.static Bundle.tN n d)).before args s = true) : xs_F n d s.heap s := by
  obtain ⟨c, k, i, f, a, cell, h1, h2, h3, h4, h5, h6, h7, h8, h9⟩ := Cond.laysStatic_spec hl
  have hv : cell.slots[f.slot]? = some cell.slots[f.slot] := Array.getElem?_eq_getElem h8
  have he : (Term.static Bundle.tN n d).eval args s none [] s = some cell.slots[f.slot] := by
    simp [Term.eval, State.fieldNamed?, h2, h3, h4, h5, h6, hv]
  refine ⟨c, k, i, f, a, cell, _, h1, h2, h3, h4, h5, h6, h7, h8, h9, hv, ?_⟩
  simp only [Cond.before, Cond.holds, Cond.value, he] at hr
  generalize cell.slots[f.slot] = v at hr
  cases v <;> simp_all [Value.isRef]
def xt_i (C : String) : MethodName := ⟨C, "<init>", "()V"⟩
/-- an A is no B -/
def xt_N (A B : String) (U : State) : Prop := ∃ ca cb, U.vm.findClass A = some ca ∧ U.vm.findClass B = some cb ∧ U.vm.assignable ca cb = false
theorem xt_N.moved {A B : String} {u U : State} (h : u.vm.Alike U.vm) (hn : xt_N A B u) : xt_N A B U := by
  obtain ⟨ca, cb, h1, h2, h3⟩ := hn
  exact ⟨ca, cb, by rw [h.findClass]; exact h1, by rw [h.findClass]; exact h2, by rw [h.assignable]; exact h3⟩
theorem xt_N.of {A B : String} {s : State} {args : Array Value} (h1 : (Cond.castable A A).before args s = true) (h2 : (Cond.castable B B).before args s = true) (hn : (Cond.not (.castable A B)).before args s = true) : xt_N A B s := by
  obtain ⟨ca, -, ha, -, -⟩ := Cond.castable_spec h1
  obtain ⟨cb, -, hb, -, -⟩ := Cond.castable_spec h2
  refine ⟨ca, cb, ha, hb, ?_⟩
  simp only [Cond.before, Cond.holds, Cond.value, ha, hb] at hn
  simpa using hn
/-- what throwing needs besides the good words -/
def xt_K (Hs : Heap) (U : State) : Prop := va_Nw (.declares (xt_i "java/lang/RuntimeException")) U ∧ va_Nw (.declares (xt_i "java/lang/Exception")) U ∧ va_Nw (.declares (xt_i "java/lang/Throwable")) U ∧ va_Nw (.castable "java/lang/IllegalArgumentException" "java/lang/IllegalArgumentException") U ∧ va_Nw (.castable "java/lang/IllegalStateException" "java/lang/IllegalStateException") U ∧ va_Nw (.castable "java/lang/IndexOutOfBoundsException" "java/lang/IndexOutOfBoundsException") U ∧ xs_F "UNASSIGNED_STACK" Bundle.steD Hs U ∧ xs_F "SUPPRESSED_SENTINEL" Bundle.listD Hs U ∧ xt_N "java/lang/IllegalArgumentException" "java/lang/IllegalStateException" U ∧ xt_N "java/lang/IllegalArgumentException" "java/lang/IndexOutOfBoundsException" U
theorem xt_K.moved {Hs : Heap} {u U : State} (hW : u.WarmedH U.vm) (h : xt_K Hs u) : xt_K Hs U := by
  obtain ⟨h1, h2, h3, h4, h5, h6, h7, h8, h9, h10⟩ := h
  exact ⟨h1.warmD hW, h2.warmD hW, h3.warmD hW, h4.warmC hW, h5.warmC hW, h6.warmC hW, h7.moved hW.alike, h8.moved hW.alike, h9.moved hW.alike, h10.moved hW.alike⟩
theorem xt_K.same {Hs : Heap} {u U : State} (e : u.vm = U.vm) (h : xt_K Hs u) : xt_K Hs U := by
  have a : u.vm.Alike U.vm := by rw [← e]; exact Vm.Alike.refl u.vm
  obtain ⟨h1, h2, h3, h4, h5, h6, h7, h8, h9, h10⟩ := h
  exact ⟨h1.same rfl e, h2.same rfl e, h3.same rfl e, h4.same rfl e, h5.same rfl e, h6.same rfl e, h7.moved a, h8.moved a, h9.moved a, h10.moved a⟩
/-- what the tables say, and the static table of the cipher: it lies in Hs -/
def gw_K (D : gw_D) (Hs : Heap) (U : State) : Prop := va_K D.1 gcl (gw_ty D) U ∧ va_AO R_As U ∧ va_AO R_Ro U ∧
  va_Nw (.methodLinkNest R_Gp 43 y_Ch_init "GuardedPackets") U ∧ va_Nw (.methodLinkNest R_Gp 48 y_As_init "GuardedPackets") U ∧ va_Nw (.methodLinkNest R_As 9 y_Ci_init "GuardedPackets") U ∧ va_Nw (.methodLinkNest R_As 18 y_Wi_init "GuardedPackets") U ∧
  ∃ (t : Nat) (f : Nat → Int32), va_Z "GuardedPackets$Cipher" "SUB" "[I" (.ref t) (gw_A Hs) U Hs ∧ va_T .int t 256 (fun j => .int (f j)) (gw_A Hs) U Hs ∧ xt_K Hs U
theorem gw_K.moved {D : gw_D} {Hs : Heap} {u U : State} (hW : u.WarmedH U.vm) (h : gw_K D Hs u) : gw_K D Hs U := by
  obtain ⟨h1, h2, h3, h4, h5, h6, h7, t, f, h8, h9, h10⟩ := h
  exact ⟨h1.moved hW.alike, h2.moved hW.alike, h3.moved hW.alike, h4.warmM hW, h5.warmM hW, h6.warmM hW, h7.warmM hW, t, f, h8.moved hW.alike, h9.moved hW.alike, h10.moved hW⟩
theorem gw_K.same {D : gw_D} {Hs : Heap} {u U : State} (e : u.vm = U.vm) (h : gw_K D Hs u) : gw_K D Hs U := by
  have a : u.vm.Alike U.vm := by rw [← e]; exact Vm.Alike.refl u.vm
  obtain ⟨h1, h2, h3, h4, h5, h6, h7, t, f, h8, h9, h10⟩ := h
  exact ⟨h1.moved a, h2.moved a, h3.moved a, h4.same rfl e, h5.same rfl e, h6.same rfl e, h7.same rfl e, t, f, h8.moved a, h9.moved a, h10.same e⟩
/-- a contract's start and ends -/
def gw_Pc (D : gw_D) (Hs : Heap) (G : gw_G) (av : List Value) : Array Value → State → Prop := va_Pc av (fun U => gw_P D Hs G U.heap ∧ gw_K D Hs U)
theorem gw_Pc.blind {D : gw_D} {Hs : Heap} {G : gw_G} {av : List Value} : FrameBlind (gw_Pc D Hs G av) := fun a U g mk q => ⟨q.1, q.2.1, q.2.2.same (U := U.calling g mk a) rfl⟩
abbrev gw_Bq (D : gw_D) (Hs : Heap) : gw_G → State → Prop := fun G t => gw_P D Hs G t.heap
abbrev gw_Qv (D : gw_D) (Hs : Heap) (post : gw_G → Prop) := va_Qv post (gw_Bq D Hs) (gw_A Hs)
abbrev gw_Qi (D : gw_D) (Hs : Heap) (post : Int32 → gw_G → Prop) := va_Qi post (gw_Bq D Hs) (gw_A Hs)
abbrev gw_Ql (D : gw_D) (Hs : Heap) (post : Int64 → gw_G → Prop) := va_Ql post (gw_Bq D Hs) (gw_A Hs)
abbrev gw_Qr (D : gw_D) (Hs : Heap) (post : Nat → gw_G → Prop) := va_Qr (S := gw_G) (fun _ => True) (fun G a t => gw_P D Hs G t.heap ∧ post a G) (gw_A Hs)
theorem gw_at.lt {D : gw_D} {a : Nat} {e : va_E} {H : Heap} (h : gw_at D a e H) : a < H.size := va_at.lt (q := (a, e)) h
theorem gw_at.ns {D : gw_D} {a : Nat} {e : va_E} {H : Heap} {cell : Cell} (h : gw_at D a e H) (hc : H[a]? = some cell) : cell.vm.isStatics = false := by
  cases e with
  | inl x =>
    have h1 : H[a]? = some (vp_cell x.1 x.2) := h
    cases Option.some.inj (hc.symm.trans h1)
    unfold vp_cell
    split <;> rfl
  | inr o =>
    obtain ⟨r, -, c2, q1, -, q3, -⟩ := h
    cases Option.some.inj (hc.symm.trans q1)
    rw [q3]; rfl
theorem gw_P.none {D : gw_D} {Hs : Heap} {G : gw_G} {H : Heap} (h : gw_P D Hs G H) : G H.size = none := by
  cases hg : G H.size with
  | none => rfl
  | some K =>
    obtain ⟨-, e, -, q⟩ := h.2.2 _ K hg
    exact absurd q.lt (Nat.lt_irrefl _)
/-- one cell written -/
theorem gw_P.put {D : gw_D} {Hs : Heap} {G : gw_G} {H H1 : Heap} {a : Nat} {K K' : va_E → Prop} {e : va_E} (h : gw_P D Hs G H) (hG : G a = some K) (he : gw_at D a e H1) (hK : K' e) (z : H1.size = H.size) (oq : ∀ q : Nat, q ≠ a → H1[q]? = H[q]?) : gw_P D Hs (gw_up G a K') H1 := by
  have ha := (h.2.2 a K hG).1
  refine ⟨⟨by rw [z]; exact h.1.1, fun b cb hb hc => by
    by_cases hba : b = a
    · subst hba; exact he.ns hc
    · rw [oq b hba] at hc; exact h.1.2 b cb hb hc⟩, fun q hq => by rw [oq q (by omega)]; exact h.2.1 q hq, fun b Kb hb => ?_⟩
  by_cases hab : b = a
  · subst hab
    rw [gw_up_s] at hb
    cases hb
    exact ⟨ha, e, hK, he⟩
  · rw [gw_up_n hab] at hb
    obtain ⟨h1, e1, h2, h3⟩ := h.2.2 b Kb hb
    exact ⟨h1, e1, h2, va_at.kept (q := (b, e1)) h3 (oq b hab)⟩
theorem gw_up_id {G : gw_G} {a : Nat} {K : va_E → Prop} (hG : G a = some K) : gw_up G a K = G := by
  funext q
  by_cases h : q = a
  · subst h; rw [gw_up_s, hG]
  · rw [gw_up_n h]
/-- one cell made -/
theorem gw_P.new {D : gw_D} {Hs : Heap} {G : gw_G} {H H1 : Heap} {K' : va_E → Prop} {e : va_E} (h : gw_P D Hs G H) (he : gw_at D H.size e H1) (hK : K' e) (z : H1.size = H.size + 1) (oq : ∀ q : Nat, q < H.size → H1[q]? = H[q]?) : gw_P D Hs (gw_up G H.size K') H1 := by
  refine ⟨⟨by have := h.1.1; omega, fun b cb hb hc => by
    by_cases hba : b = H.size
    · subst hba; exact he.ns hc
    · have hlt : b < H1.size := (Array.getElem?_eq_some_iff.mp hc).1
      rw [oq b (by omega)] at hc; exact h.1.2 b cb hb hc⟩, fun q hq => by rw [oq q (Nat.lt_of_lt_of_le hq h.1.1)]; exact h.2.1 q hq, fun b Kb hb => ?_⟩
  by_cases hab : b = H.size
  · subst hab
    rw [gw_up_s] at hb
    cases hb
    exact ⟨h.1.1, e, hK, he⟩
  · rw [gw_up_n hab] at hb
    obtain ⟨h1, e1, h2, h3⟩ := h.2.2 b Kb hb
    exact ⟨h1, e1, h2, va_at.kept (q := (b, e1)) h3 (oq b h3.lt)⟩
/-- a world that asks less -/
theorem gw_P.weak {D : gw_D} {Hs : Heap} {G G1 : gw_G} {H : Heap} (h : gw_P D Hs G1 H) (hw : ∀ (a : Nat) (K : va_E → Prop), G a = some K → ∃ K1, G1 a = some K1 ∧ ∀ e, K1 e → K e) : gw_P D Hs G H := by
  refine ⟨h.1, h.2.1, fun a K ha => ?_⟩
  obtain ⟨K1, h1, h2⟩ := hw a K ha
  obtain ⟨q1, e, q2, q3⟩ := h.2.2 a K1 h1
  exact ⟨q1, e, h2 e q2, q3⟩
theorem gw_P.opn {D : gw_D} {Hs : Heap} {G : gw_G} {H : Heap} {a : Nat} {K : va_E → Prop} (h : gw_P D Hs G H) (hG : G a = some K) : ∃ e, K e ∧ gw_P D Hs (gw_up G a (fun x => x = e)) H := by
  obtain ⟨q1, e, q2, q3⟩ := h.2.2 a K hG
  refine ⟨e, q2, h.1, h.2.1, fun b Kb hb => ?_⟩
  by_cases hab : b = a
  · subst hab
    rw [gw_up_s] at hb
    cases hb
    exact ⟨q1, e, rfl, q3⟩
  · rw [gw_up_n hab] at hb
    exact h.2.2 b Kb hb
theorem gw_P.close {D : gw_D} {Hs : Heap} {G : gw_G} {H : Heap} {a : Nat} {K K' : va_E → Prop} (h : gw_P D Hs (gw_up G a K') H) (hG : G a = some K) (hk : ∀ e, K' e → K e) : gw_P D Hs G H := by
  refine h.weak (fun b Kb hb => ?_)
  by_cases hab : b = a
  · subst hab
    rw [hG] at hb
    cases hb
    exact ⟨K', gw_up_s, hk⟩
  · exact ⟨Kb, by rw [gw_up_n hab]; exact hb, fun _ h => h⟩
/-! kinds -/
def kx (e0 : va_E) : va_E → Prop := fun e => e = e0
/-- an array of n ints (bytes, booleans) that all have P -/
def kA (D : gw_D) (t n : Nat) (P : Int32 → Prop) : va_E → Prop := fun e => ∃ f : Nat → Int32, (∀ j, j < n → P (f j)) ∧ e = .inl (D.2 t, n, .inl f)
def kL (D : gw_D) (n : Nat) (P : Int64 → Prop) : va_E → Prop := fun e => ∃ f : Nat → Int64, (∀ j, j < n → P (f j)) ∧ e = .inl (D.2 3, n, .inr (.inl f))
def kR (D : gw_D) (t n : Nat) (P : Nat → Nat → Prop) : va_E → Prop := fun e => ∃ f : Nat → Option Nat, (∀ j, j < n → ∃ b, f j = some b ∧ P j b) ∧ e = .inl (D.2 t, n, .inr (.inr (.inr (.inr f))))
section GWR
variable {p : Program} {l : Launch} {e : Env} {R : Room} {s : State} {m : MethodId} {args : Array Value} {below : List Frame} {meth : Method} {c : Code} {H H0 : Heap} {locs : List Loc} {cells slots : Nat} {Q : State → Prop}
variable {cc : ByteArray} {pc nL : Nat} {ls : Array Slot} {rest : List Value} {a : Nat} {own : String} {D : gw_D} {Hs : Heap} {G : gw_G} {K : va_E → Prop}
theorem gw_one {ev : va_E} (h : gw_at D a ev H) : va_P D.1 gcl [(a, ev)] H := fun k q hk => by
  have hz : k < 1 := (List.getElem?_eq_some_iff.mp hk).1
  rw [show k = 0 by omega] at hk
  cases hk
  exact h
/-- getfield -/
theorem gw_get (M : CallFix p m c cc nL s args tb own) (hK : gw_K D Hs s) (hI : gw_I D Hs G H0 H locs) (hG : G a = some K) {C : String} {T : u_T} {N ci index : Nat} (hin : ∀ w ∈ u_ws C T N, w ∈ tb) (hc : gcl[ci]? = some (C, T, N)) (k : Nat) (hk : k < N) {fn fd : String} (hlink : Cond.fieldLink own index C fn fd ∈ tb) (hT : (T k) = (C, fn, fd, (T k).2.2.2))
    {Pv : Value → Prop} (hv : ∀ x, K x → ∃ fs v, x = .inr (ci, fs) ∧ fs[k]? = some v ∧ Pv v) (hdg : decode cc pc = .ok (.getfield index, 3))
    (kk : ∀ v, Pv v → W p l e R s m args below meth c H locs cells slots Q (F0 m (pc + 3) ls (v :: rest))) : W p l e R s m args below meth c H locs cells slots Q (F0 m pc ls (.ref a :: rest)) := by
  obtain ⟨hx, hb, -, hown, hts⟩ := M
  obtain ⟨-, x, hx1, hx2⟩ := hI.1.2.2 a K hG
  obtain ⟨fs, v, rfl, h2, h3⟩ := hv x hx1
  have e1 : (T k).2.1 = fn := by rw [hT]
  have e2 : (T k).2.2.1 = fd := by rw [hT]
  have e0 : (T k).1 = C := by rw [hT]
  refine va_get (D := D.1) (ci := ci) (v := v) (ref := C) hx hb hts hin hown hK.1 (gw_one hx2) 0 rfl hc k hk (by rw [e1, e2]; exact hts _ hlink) (fun z h => by rw [e0] at h; exact h) h2 hdg (kk v h3)
/-- putfield -/
theorem gw_put (M : CallFix p m c cc nL s args tb own) (hK : gw_K D Hs s) (hI : gw_I D Hs G H0 H locs) (hG : G a = some K) {C : String} {T : u_T} {N ci index : Nat} (hin : ∀ w ∈ u_ws C T N, w ∈ tb) (ty0 : Nat → FieldType) (hty : ∀ k, k < N → parseFieldDescriptor (T k).2.2.1 = some (ty0 k)) (hnm : ∀ a, a < N → ∀ b, b < N → a ≠ b → (T a).2.1 ≠ (T b).2.1) (hc : gcl[ci]? = some (C, T, N)) (k : Nat) (hk : k < N) {fn fd : String} (hlink : Cond.fieldLink own index C fn fd ∈ tb) (hT : T k = (C, fn, fd, false))
    {v : Value} (hn : narrow (ty0 k) v = v) (hfit : fits (ty0 k) v = true) (K' : va_E → Prop) (hv : ∀ x, K x → ∃ fs, x = .inr (ci, fs) ∧ k < fs.length ∧ K' (.inr (ci, fs.set k v))) (hdg : decode cc pc = .ok (.putfield index, 3))
    (kk : ∀ (H1 : Heap) (locs1 : List Loc), gw_I D Hs (gw_up G a K') H0 H1 locs1 → W p l e R s m args below meth c H1 locs1 cells slots Q (F0 m (pc + 3) ls rest)) : W p l e R s m args below meth c H locs cells slots Q (F0 m pc ls (v :: .ref a :: rest)) := by
  obtain ⟨hx, hb, -, hown, hts⟩ := M
  have hap := va_apart (own := own) hts hin ty0 hty hnm hK.1 hc
  obtain ⟨hA, x, hx1, hx2⟩ := hI.1.2.2 a K hG
  obtain ⟨fs, rfl, hl, h3⟩ := hv x hx1
  obtain ⟨r, h1, cell, q1, q2, q3, q4⟩ := hx2
  have hr : r = (C, T, N) := Option.some.inj (h1.symm.trans hc)
  subst hr
  obtain ⟨hS, hfc, kC, hkC, hkind⟩ := hK.1.1 ci _ hc
  obtain ⟨cf, kf, fi, f, hi, hsl⟩ := hS k hk
  have hlay := hts _ (hin _ (u_in_lay hk))
  have hd := hty k hk
  have e1 : (T k).2.1 = fn := by rw [hT]
  have e2 : (T k).2.2.1 = fd := by rw [hT]
  have e0 : (T k).1 = C := by rw [hT]
  have hfin : (T k).2.2.2 = false := by rw [hT]
  unfold u_lay at hlay
  rw [if_neg (by rw [hfin]; decide)] at hlay
  have hst := (u_facts hfc hkC (u_lays hts hin hk) hi).1
  have h6 := u_store hfc hkC hkind hlay hi hd hn hfit
  rw [e0, e1, e2] at hi
  refine W.putK hx hb (f := f) ⟨hown, hts _ hlink, ⟨_, _, _, hi⟩, hst⟩ (by rw [q2]; exact h6) q1 q3 (by rw [hsl]; exact k2_hasslot (q4 k hk)) rfl rfl hdg fun H' g1 g2 g3 => ?_
  rw [hsl] at g1 ⊢
  refine kk H' _ ⟨hI.1.put hG (e := .inr (ci, fs.set k v)) ⟨_, hc, t_OB.to (V := updV (vp_V fs) k v) ⟨_, g1, q2, q3, t_set q4 hap hk v⟩ (fun j _ => vp_updV_set hl v j)⟩ h3 g2 g3, hI.2.put g2 g3 hA⟩
/-- putfield of a final field, in a constructor -/
theorem gw_putF (M : CallFix p m c cc nL s args tb own) (hK : gw_K D Hs s) (hI : gw_I D Hs G H0 H locs) (hG : G a = some K) {T : u_T} {N ci index : Nat} (hin : ∀ w ∈ u_ws own T N, w ∈ tb) (ty0 : Nat → FieldType) (hty : ∀ k, k < N → parseFieldDescriptor (T k).2.2.1 = some (ty0 k)) (hnm : ∀ a, a < N → ∀ b, b < N → a ≠ b → (T a).2.1 ≠ (T b).2.1) (hc : gcl[ci]? = some (own, T, N)) (k : Nat) (hk : k < N) {fn fd : String} (hlink : Cond.fieldLink own index own fn fd ∈ tb) (hT : T k = (own, fn, fd, true)) (hin2 : meth.name = "<init>")
    {v : Value} (hn : narrow (ty0 k) v = v) (hfit : fits (ty0 k) v = true) (K' : va_E → Prop) (hv : ∀ x, K x → ∃ fs, x = .inr (ci, fs) ∧ k < fs.length ∧ K' (.inr (ci, fs.set k v))) (hdg : decode cc pc = .ok (.putfield index, 3))
    (kk : ∀ (H1 : Heap) (locs1 : List Loc), gw_I D Hs (gw_up G a K') H0 H1 locs1 → W p l e R s m args below meth c H1 locs1 cells slots Q (F0 m (pc + 3) ls rest)) : W p l e R s m args below meth c H locs cells slots Q (F0 m pc ls (v :: .ref a :: rest)) := by
  obtain ⟨hx, hb, -, hown, hts⟩ := M
  have hap := va_apart (own := own) hts hin ty0 hty hnm hK.1 hc
  obtain ⟨hA, x, hx1, hx2⟩ := hI.1.2.2 a K hG
  obtain ⟨fs, rfl, hl, h3⟩ := hv x hx1
  obtain ⟨r, h1, cell, q1, q2, q3, q4⟩ := hx2
  have hr : r = (own, T, N) := Option.some.inj (h1.symm.trans hc)
  subst hr
  obtain ⟨hS, hfc, kC, hkC, hkind⟩ := hK.1.1 ci _ hc
  obtain ⟨cf, kf, fi, f, hi, hsl⟩ := hS k hk
  have hlay := hts _ (hin _ (u_in_lay hk))
  have hd := hty k hk
  have e1 : (T k).2.1 = fn := by rw [hT]
  have e2 : (T k).2.2.1 = fd := by rw [hT]
  have e0 : (T k).1 = own := by rw [hT]
  have hfin : (T k).2.2.2 = true := by rw [hT]
  unfold u_lay at hlay
  rw [if_pos hfin] at hlay
  have hst := (u_facts hfc hkC (u_lays hts hin hk) hi).1
  have hcf : m.cls = cf := by
    obtain ⟨_, _, c', _, _, _, -, -, hf', -, -, -, hown2, -⟩ := Cond.laysFinal_spec hlay
    have g1 : c' = cf := by have := hi.symm.trans hf'; simp at this; exact this.1.symm
    rw [e0] at hown2
    rw [← g1]; exact Option.some.inj (hown.symm.trans hown2)
  have h6 := u_fits hfc hkC hkind (Or.inr hlay) hi hd hn hfit
  rw [e0, e1, e2] at hi
  refine W.putFinK hx hb hown (hts _ hlink) hi hst hcf hin2 (by rw [q2]; exact h6) q1 q3 (by rw [hsl]; exact k2_hasslot (q4 k hk)) rfl rfl hdg fun H' g1 g2 g3 => ?_
  rw [hsl] at g1 ⊢
  refine kk H' _ ⟨hI.1.put hG (e := .inr (ci, fs.set k v)) ⟨_, hc, t_OB.to (V := updV (vp_V fs) k v) ⟨_, g1, q2, q3, t_set q4 hap hk v⟩ (fun j _ => vp_updV_set hl v j)⟩ h3 g2 g3, hI.2.put g2 g3 hA⟩
end GWR
