/-! THE CLAIM OUT OF ONE WALK OF THE LAW'S BODY. Your part is whole_start (and what it stands on); all else here is the same for every law, but numbers. -/
def R_law : String := "GuardedPacketsLaw"
def lw_P (b : Addr) (xs : List Int32) (args : Array Value) (s : State) : Prop := args = #[.ref b] ∧ s.IntsAt b xs ∧ xs.length ≤ 4608 ∧ (Jvm.Cond.and given_1 narrow_1).before args s = true
def lw_Q (_ : Array Value) (s : State) (o : Outcome) (t : State) : Prop := o = .returned (some (.int 1)) ∧ Framed s o t [] 601024 7293034
def lw_Z (below : List Frame) (a : Array Value) (s : State) : State → Prop := fun t => ∃ o, t.status = .running ∧ Ended t below o ∧ lw_Q a s o t
/-- the law's own end, with 1 on the stack, nothing written that was there before, its room as the claim has it -/
theorem lw_ret {p : Program} {l : Launch} {e : Env} {s : State} {m : MethodId} {below : List Frame} {meth : Method} {c : Code} {b : Nat} (hx : p.tables.exec = Jvm.exec) (hb : c.code = code) (hr : meth.sig.returnType = ret) (hlocks : meth.locks = false) {pc : Nat} {H : Heap} {ls : Array Slot} (hdg : decode code pc = .ok (.ireturn, 1)) : W p l e room_1 s m #[Value.ref b] below meth c H [] 601024 7293034 (lw_Z below #[Value.ref b] s) (F0 m pc ls [.int 1]) := by
  intro T hT X
  obtain ⟨fs, hret, hrun, hended, hW, hframe⟩ := X.leave (v := some (.int 1)) (hlocks := hlocks) (fun h => by rw [hr] at h; cases h)
  have hmeth' : T.vm.method? m = some meth := X.method'
  refine ⟨T.setFrames fs, ?_, .returned (some (.int 1)), hrun, hended, rfl, ⟨_, rfl⟩, hW, hframe⟩
  jvm_step X.here [X.here.top, hx, hb, hdg, hmeth', hr, ret, narrow_b1]
  (try refine ⟨rfl, ?_⟩); (try refine ⟨rfl, ?_⟩)
  first | (intro acts; rw [hret _ acts rfl rfl rfl]) | rw [hret _ _ rfl rfl rfl]
  exact Steps.refl _
/-- what holds at the law's entry: the machine, the code, the tables' words (any of lw_tbl by 'hts w (by decide +kernel)'), the script of L ints xs at the cell b, what the Statement gives of the start (any of its parts by flat_of_before) -/
def lw_At (p : Program) (s : State) (m : MethodId) (meth : Method) (c : Code) (b L : Nat) (xs : Nat → Int32) : Prop :=
  p.tables.exec = Jvm.exec ∧ c.code = code ∧ meth.sig.returnType = ret ∧ c.maxLocals = 8 ∧ s.vm.findClass R_law = some m.cls ∧ (∀ w ∈ lw_tbl, w.before #[Value.ref b] s = true) ∧ va_X b L xs s s.heap ∧ b < s.heap.size ∧ meth.locks = false ∧ (Jvm.Cond.and given_1 narrow_1).before #[Value.ref b] s = true

def sub_tab : List Int32 := [99, 124, 119, 123, 242, 107, 111, 197, 48, 1, 103, 43, 254, 215, 171, 118, 202, 130, 201, 125, 250, 89, 71, 240, 173, 212, 162, 175, 156, 164, 114, 192, 183, 253, 147, 38, 54, 63, 247, 204, 52, 165, 229, 241, 113, 216, 49, 21, 4, 199, 35, 195, 24, 150, 5, 154, 7, 18, 128, 226, 235, 39, 178, 117, 9, 131, 44, 26, 27, 110, 90, 160, 82, 59, 214, 179, 41, 227, 47, 132, 83, 209, 0, 237, 32, 252, 177, 91, 106, 203, 190, 57, 74, 76, 88, 207, 208, 239, 170, 251, 67, 77, 51, 133, 69, 249, 2, 127, 80, 60, 159, 168, 81, 163, 64, 143, 146, 157, 56, 245, 188, 182, 218, 33, 16, 255, 243, 210, 205, 12, 19, 236, 95, 151, 68, 23, 196, 167, 126, 61, 100, 93, 25, 115, 96, 129, 79, 220, 34, 42, 144, 136, 70, 238, 184, 20, 222, 94, 11, 219, 224, 50, 58, 10, 73, 6, 36, 92, 194, 211, 172, 98, 145, 149, 228, 121, 231, 200, 55, 109, 141, 213, 78, 169, 108, 86, 244, 234, 101, 122, 174, 8, 186, 120, 37, 46, 28, 166, 180, 198, 232, 221, 116, 31, 75, 189, 139, 138, 112, 62, 181, 102, 72, 3, 246, 14, 97, 53, 87, 185, 134, 193, 29, 158, 225, 248, 152, 17, 105, 217, 142, 148, 155, 30, 135, 233, 206, 85, 40, 223, 140, 161, 137, 13, 191, 230, 66, 104, 65, 153, 45, 15, 176, 84, 187, 22]

def sub_eq (j : Nat) : Cond := Cond.eq (.elem (.static "GuardedPackets$Cipher" "SUB" "[I") (.int (Int32.ofNat j))) (.int (sub_tab.getD j 0))
set_option maxRecDepth 100000 in
theorem sub_list : ((flatC (Jvm.Cond.and given_1 narrow_1)).drop 7).take 256 = (List.range 256).map sub_eq := by decide +kernel
theorem sub_mem (j : Nat) (hj : j < 256) : sub_eq j ∈ flatC (Jvm.Cond.and given_1 narrow_1) := by
  have h : sub_eq j ∈ (List.range 256).map sub_eq := List.mem_map.mpr ⟨j, List.mem_range.mpr hj, rfl⟩
  rw [← sub_list] at h
  exact List.mem_of_mem_drop (List.mem_of_mem_take h)
theorem law_arr {s : State} {args : Array Value} {ty : FieldType} (h : (Cond.arrayClass ty).before args s = true) : ∃ cA, ArrOfT s cA ty ∧ s.vm.findClass ("[" ++ ty.toString) = some cA := by
  obtain ⟨cA, kA, comp, h1, h2, h3⟩ := Cond.arrayClass_spec h
  exact ⟨cA, fun n z => ⟨fun k h => (by cases h), kA, h2, comp, h3⟩, h1⟩
theorem law_over {s : State} {args : Array Value} {C : String} (h : (Cond.arrayOver (.object C)).before args s = true) : ∃ cA, ArrOfT s cA (.object C) ∧ va_RA s cA (.object C) := by
  obtain ⟨comp, cA, kA, h1, -, h3, h4, h5⟩ := Cond.arrayOver_spec h
  exact ⟨cA, fun n z => ⟨fun k h => (by cases h), kA, h3, comp, h4⟩, kA, comp, h3, h4, h1, h5⟩

set_option maxHeartbeats 4000000 in
set_option maxRecDepth 100000 in
theorem law_K {p : Program} {s : State} {m : MethodId} {meth : Method} {c : Code} {b L : Nat} {xs : Nat → Int32} (C0 : lw_At p s m meth c b L xs) : ∃ D, gw_K D s.heap s := by
  obtain ⟨hx, hb, hr, hml, hown, hts, hX, hbl, hlocks, hgv⟩ := C0
  have htb : ∀ w ∈ tb, w.before #[Value.ref b] s = true := fun w h => hts w (tb_in h)
  obtain ⟨c0, i0, k0⟩ := u_known (C := R_As) (T := F_As) (N := 12) (n := 12) htb i_As (htb _ j_As)
  obtain ⟨c1, i1, k1⟩ := u_known (C := R_Ch) (T := F_Ch) (N := 2) (n := 2) htb i_Ch (htb _ j_Ch)
  obtain ⟨c2, i2, k2⟩ := u_known (C := R_Ci) (T := F_Ci) (N := 3) (n := 3) htb i_Ci (htb _ j_Ci)
  obtain ⟨c3, i3, k3⟩ := u_known (C := R_Ro) (T := F_Ro) (N := 3) (n := 3) htb i_Ro (htb _ j_Ro)
  obtain ⟨c4, i4, k4⟩ := u_known (C := R_Wi) (T := F_Wi) (N := 3) (n := 3) htb i_Wi (htb _ j_Wi)
  obtain ⟨c5, i5, k5⟩ := u_known (C := R_Gp) (T := F_Gp) (N := 8) (n := 8) htb i_Gp (htb _ j_Gp)
  obtain ⟨c6, i6, k6⟩ := u_known (C := R_Mo) (T := F_Mo) (N := 30) (n := 30) htb i_Mo (htb _ j_Mo)
  obtain ⟨a0, p0, q0⟩ := law_arr (htb _ a_int)
  obtain ⟨a1, p1, q1⟩ := law_arr (htb _ a_byte)
  obtain ⟨a2, p2, q2⟩ := law_arr (htb _ a_boolean)
  obtain ⟨a3, p3, q3⟩ := law_arr (htb _ a_long)
  have ho4 : (Cond.arrayOver (.object R_As)).before #[Value.ref b] s = true := hts _ (tb_tab (List.mem_append_left _ (List.mem_of_getElem? (i := 24) rfl)))
  have ho5 : (Cond.arrayOver (.object R_Ro)).before #[Value.ref b] s = true := hts _ (tb_tab (List.mem_append_left _ (List.mem_of_getElem? (i := 45) rfl)))
  obtain ⟨a4, p4, q4⟩ := law_over ho4
  obtain ⟨a5, p5, q5⟩ := law_over ho5
  have hfl := flat_of_before _ hgv
  obtain ⟨t, ht, hT⟩ := va_Tof (tm := .static "GuardedPackets$Cipher" "SUB" "[I") (ty := .int) (N := 256) (f := fun j => .int (sub_tab.getD j 0)) (A := gw_A s.heap) (by decide) (hfl (.arrayOf (.static "GuardedPackets$Cipher" "SUB" "[I") .int) (by decide +kernel)) (va_eqt (hfl (.eq (.length (.static "GuardedPackets$Cipher" "SUB" "[I")) (.int 256)) (by decide +kernel))) (fun j hj => va_eqt (hfl _ (sub_mem j hj))) (fun a h => Nat.not_le.mpr h)
  have hZ := va_Zref (A := gw_A s.heap) (hts (.laysStatic "GuardedPackets$Cipher" "SUB" "[I") (tb_tab (List.mem_append_right _ (List.mem_append_left _ (List.mem_of_getElem? (i := 44) rfl))))) (htb _ z_Ci) ht (fun a h => Nat.not_le.mpr h)
  have hF1 := xs_F.of (hts (.laysStatic Bundle.tN "UNASSIGNED_STACK" Bundle.steD) (tb_tab (List.mem_append_right _ (List.mem_append_left _ (List.mem_of_getElem? (i := 158) rfl))))) (hfl (.isRef (.static Bundle.tN "UNASSIGNED_STACK" Bundle.steD)) (by decide +kernel))
  have hF2 := xs_F.of (hts (.laysStatic Bundle.tN "SUPPRESSED_SENTINEL" Bundle.listD) (tb_tab (List.mem_append_right _ (List.mem_append_left _ (List.mem_of_getElem? (i := 160) rfl))))) (hfl (.isRef (.static Bundle.tN "SUPPRESSED_SENTINEL" Bundle.listD)) (by decide +kernel))
  refine ⟨((fun k => [c0, c1, c2, c3, c4, c5, c6].getD k c0, fun k => [i0, i1, i2, i3, i4, i5, i6].getD k i0), fun k => [a0, a1, a2, a3, a4, a5].getD k a0), ⟨?_, ?_⟩, va_AO.of ho4, va_AO.of ho5, va_Nw.of rfl (hts _ (tb_tab (List.mem_append_left _ (List.mem_of_getElem? (i := 48) rfl)))), va_Nw.of rfl (hts _ (tb_tab (List.mem_append_left _ (List.mem_of_getElem? (i := 64) rfl)))), va_Nw.of rfl (hts _ (tb_tab (List.mem_append_left _ (List.mem_of_getElem? (i := 70) rfl)))), va_Nw.of rfl (hts _ (tb_tab (List.mem_append_left _ (List.mem_of_getElem? (i := 89) rfl)))), t, _, hZ, hT, ?_⟩
  · intro k q hq
    match k, hq with
    | 0, hq => cases hq; exact k0
    | 1, hq => cases hq; exact k1
    | 2, hq => cases hq; exact k2
    | 3, hq => cases hq; exact k3
    | 4, hq => cases hq; exact k4
    | 5, hq => cases hq; exact k5
    | 6, hq => cases hq; exact k6
    | k + 7, hq => simp [gcl] at hq
  · intro k q hq
    match k, hq with
    | 0, hq => cases hq; exact ⟨p0, q0⟩
    | 1, hq => cases hq; exact ⟨p1, q1⟩
    | 2, hq => cases hq; exact ⟨p2, q2⟩
    | 3, hq => cases hq; exact ⟨p3, q3⟩
    | 4, hq => cases hq; exact ⟨p4, q4⟩
    | 5, hq => cases hq; exact ⟨p5, q5⟩
    | k + 6, hq => simp [gw_ty] at hq
  · exact ⟨va_Nw.of rfl (hts _ (tb_tab (List.mem_append_right _ (List.mem_append_left _ (List.mem_of_getElem? (i := 134) rfl))))), va_Nw.of rfl (hts _ (tb_tab (List.mem_append_right _ (List.mem_append_left _ (List.mem_of_getElem? (i := 136) rfl))))), va_Nw.of rfl (hts _ (tb_tab (List.mem_append_right _ (List.mem_append_left _ (List.mem_of_getElem? (i := 138) rfl))))), va_Nw.of rfl (hts _ (tb_tab (List.mem_append_right _ (List.mem_append_left _ (List.mem_of_getElem? (i := 133) rfl))))), va_Nw.of rfl (hts _ (tb_tab (List.mem_append_right _ (List.mem_append_left _ (List.mem_of_getElem? (i := 225) rfl))))), va_Nw.of rfl (hts _ (tb_tab (List.mem_append_right _ (List.mem_append_right _ (List.mem_append_left _ (List.mem_of_getElem? (i := 42) rfl)))))), hF1, hF2, xt_N.of (hts _ (tb_tab (List.mem_append_right _ (List.mem_append_left _ (List.mem_of_getElem? (i := 133) rfl))))) (hts _ (tb_tab (List.mem_append_right _ (List.mem_append_left _ (List.mem_of_getElem? (i := 225) rfl))))) (hfl (.not (.castable "java/lang/IllegalArgumentException" "java/lang/IllegalStateException")) (by decide +kernel)), xt_N.of (hts _ (tb_tab (List.mem_append_right _ (List.mem_append_left _ (List.mem_of_getElem? (i := 133) rfl))))) (hts _ (tb_tab (List.mem_append_right _ (List.mem_append_right _ (List.mem_append_left _ (List.mem_of_getElem? (i := 42) rfl)))))) (hfl (.not (.castable "java/lang/IllegalArgumentException" "java/lang/IndexOutOfBoundsException")) (by decide +kernel))⟩
