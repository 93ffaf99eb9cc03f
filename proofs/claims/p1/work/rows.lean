section
-- ===== PART A: goes FIRST, ahead of the names: the tables' words, and 'selects' of the private methods out of them =====
/-- a private method of a class that the tables say can be made, by its rows of tables_1 -/
def lw_okq (q : MethodName × Nat) : Prop := (q.1.cls ≠ "java/lang/invoke/MethodHandle" ∧ q.1.cls ≠ "java/lang/invoke/VarHandle") ∧ Cond.instantiable q.1.cls q.2 ∈ tables_1 ∧ Cond.privateMethod q.1 ∈ tables_1 ∧ Cond.instanceMethod q.1 ∈ tables_1
theorem lw_p0 : lw_okq (⟨"GuardedPackets", "placeOf", "(I)I"⟩, 8) := ⟨⟨by decide +kernel, by decide +kernel⟩, List.mem_of_getElem? (i := 16) (by decide +kernel), List.mem_of_getElem? (i := 186) (by decide +kernel), List.mem_of_getElem? (i := 187) (by decide +kernel)⟩
theorem lw_p1 : lw_okq (⟨"GuardedPackets", "isAt", "(II)Z"⟩, 8) := ⟨⟨by decide +kernel, by decide +kernel⟩, List.mem_of_getElem? (i := 16) (by decide +kernel), List.mem_of_getElem? (i := 190) (by decide +kernel), List.mem_of_getElem? (i := 191) (by decide +kernel)⟩
theorem lw_p2 : lw_okq (⟨"GuardedPackets", "isSealRight", "(LGuardedPackets$Association;J)Z"⟩, 8) := ⟨⟨by decide +kernel, by decide +kernel⟩, List.mem_of_getElem? (i := 16) (by decide +kernel), List.mem_of_getElem? (i := 253) (by decide +kernel), List.mem_of_getElem? (i := 254) (by decide +kernel)⟩
theorem lw_p3 : lw_okq (⟨"GuardedPackets$Check", "take", "(LGuardedPackets$Association;JJ)V"⟩, 2) := ⟨⟨by decide +kernel, by decide +kernel⟩, List.mem_of_getElem? (i := 47) (by decide +kernel), List.mem_of_getElem? (i := 261) (by decide +kernel), List.mem_of_getElem? (i := 262) (by decide +kernel)⟩
theorem lw_p4 : lw_okq (⟨"GuardedPackets$Association", "encryptJ", "(JI)V"⟩, 12) := ⟨⟨by decide +kernel, by decide +kernel⟩, List.mem_of_getElem? (i := 63) (by decide +kernel), List.mem_of_getElem? (i := 273) (by decide +kernel), List.mem_of_getElem? (i := 274) (by decide +kernel)⟩
theorem lw_p5 : lw_okq (⟨"GuardedPackets$Window", "forget", "(J)V"⟩, 3) := ⟨⟨by decide +kernel, by decide +kernel⟩, List.mem_of_getElem? (i := 88) (by decide +kernel), List.mem_of_getElem? (i := 309) (by decide +kernel), List.mem_of_getElem? (i := 310) (by decide +kernel)⟩
theorem lw_p6 : lw_okq (⟨"GuardedPackets", "unpack", "(LGuardedPackets$Association;)I"⟩, 8) := ⟨⟨by decide +kernel, by decide +kernel⟩, List.mem_of_getElem? (i := 16) (by decide +kernel), List.mem_of_getElem? (i := 316) (by decide +kernel), List.mem_of_getElem? (i := 317) (by decide +kernel)⟩
theorem lw_p7 : lw_okq (⟨"GuardedPackets", "isFillRight", "(I)Z"⟩, 8) := ⟨⟨by decide +kernel, by decide +kernel⟩, List.mem_of_getElem? (i := 16) (by decide +kernel), List.mem_of_getElem? (i := 345) (by decide +kernel), List.mem_of_getElem? (i := 346) (by decide +kernel)⟩
theorem lw_p8 : lw_okq (⟨"java/lang/Throwable", "fillInStackTrace", "(I)Ljava/lang/Throwable;"⟩, 6) := ⟨⟨by decide +kernel, by decide +kernel⟩, List.mem_of_getElem? (i := 410) (by decide +kernel), List.mem_of_getElem? (i := 408) (by decide +kernel), List.mem_of_getElem? (i := 409) (by decide +kernel)⟩
theorem lw_p9 : lw_okq (⟨"GuardedPackets", "known", "(I)LGuardedPackets$Association;"⟩, 8) := ⟨⟨by decide +kernel, by decide +kernel⟩, List.mem_of_getElem? (i := 16) (by decide +kernel), List.mem_of_getElem? (i := 460) (by decide +kernel), List.mem_of_getElem? (i := 461) (by decide +kernel)⟩
theorem lw_p10 : lw_okq (⟨"GuardedPackets", "writePlain", "(LGuardedPackets$Association;I)V"⟩, 8) := ⟨⟨by decide +kernel, by decide +kernel⟩, List.mem_of_getElem? (i := 16) (by decide +kernel), List.mem_of_getElem? (i := 505) (by decide +kernel), List.mem_of_getElem? (i := 506) (by decide +kernel)⟩
theorem lw_p11 : lw_okq (⟨"GuardedPacketsModel", "find", "(I)I"⟩, 30) := ⟨⟨by decide +kernel, by decide +kernel⟩, List.mem_of_getElem? (i := 585) (by decide +kernel), List.mem_of_getElem? (i := 695) (by decide +kernel), List.mem_of_getElem? (i := 696) (by decide +kernel)⟩
theorem lw_p12 : lw_okq (⟨"GuardedPacketsModel", "spreadKey", "(IJJ)V"⟩, 30) := ⟨⟨by decide +kernel, by decide +kernel⟩, List.mem_of_getElem? (i := 585) (by decide +kernel), List.mem_of_getElem? (i := 699) (by decide +kernel), List.mem_of_getElem? (i := 700) (by decide +kernel)⟩
theorem lw_p13 : lw_okq (⟨"GuardedPacketsModel", "greatest", "(I)J"⟩, 30) := ⟨⟨by decide +kernel, by decide +kernel⟩, List.mem_of_getElem? (i := 585) (by decide +kernel), List.mem_of_getElem? (i := 713) (by decide +kernel), List.mem_of_getElem? (i := 714) (by decide +kernel)⟩
theorem lw_p14 : lw_okq (⟨"GuardedPacketsModel", "put", "(I)V"⟩, 30) := ⟨⟨by decide +kernel, by decide +kernel⟩, List.mem_of_getElem? (i := 585) (by decide +kernel), List.mem_of_getElem? (i := 735) (by decide +kernel), List.mem_of_getElem? (i := 736) (by decide +kernel)⟩
theorem lw_p15 : lw_okq (⟨"GuardedPacketsModel", "turnBody", "(II)V"⟩, 30) := ⟨⟨by decide +kernel, by decide +kernel⟩, List.mem_of_getElem? (i := 585) (by decide +kernel), List.mem_of_getElem? (i := 742) (by decide +kernel), List.mem_of_getElem? (i := 743) (by decide +kernel)⟩
def lw_privs_1 : List (MethodName × Nat) := [(⟨"GuardedPackets", "placeOf", "(I)I"⟩, 8), (⟨"GuardedPackets", "isAt", "(II)Z"⟩, 8), (⟨"GuardedPackets", "isSealRight", "(LGuardedPackets$Association;J)Z"⟩, 8), (⟨"GuardedPackets$Check", "take", "(LGuardedPackets$Association;JJ)V"⟩, 2), (⟨"GuardedPackets$Association", "encryptJ", "(JI)V"⟩, 12), (⟨"GuardedPackets$Window", "forget", "(J)V"⟩, 3), (⟨"GuardedPackets", "unpack", "(LGuardedPackets$Association;)I"⟩, 8), (⟨"GuardedPackets", "isFillRight", "(I)Z"⟩, 8), (⟨"java/lang/Throwable", "fillInStackTrace", "(I)Ljava/lang/Throwable;"⟩, 6), (⟨"GuardedPackets", "known", "(I)LGuardedPackets$Association;"⟩, 8), (⟨"GuardedPackets", "writePlain", "(LGuardedPackets$Association;I)V"⟩, 8), (⟨"GuardedPacketsModel", "find", "(I)I"⟩, 30), (⟨"GuardedPacketsModel", "spreadKey", "(IJJ)V"⟩, 30), (⟨"GuardedPacketsModel", "greatest", "(I)J"⟩, 30), (⟨"GuardedPacketsModel", "put", "(I)V"⟩, 30), (⟨"GuardedPacketsModel", "turnBody", "(II)V"⟩, 30)]
theorem lw_r1 : ∀ q ∈ lw_privs_1, lw_okq q := List.forall_mem_cons.mpr ⟨lw_p0, List.forall_mem_cons.mpr ⟨lw_p1, List.forall_mem_cons.mpr ⟨lw_p2, List.forall_mem_cons.mpr ⟨lw_p3, List.forall_mem_cons.mpr ⟨lw_p4, List.forall_mem_cons.mpr ⟨lw_p5, List.forall_mem_cons.mpr ⟨lw_p6, List.forall_mem_cons.mpr ⟨lw_p7, List.forall_mem_cons.mpr ⟨lw_p8, List.forall_mem_cons.mpr ⟨lw_p9, List.forall_mem_cons.mpr ⟨lw_p10, List.forall_mem_cons.mpr ⟨lw_p11, List.forall_mem_cons.mpr ⟨lw_p12, List.forall_mem_cons.mpr ⟨lw_p13, List.forall_mem_cons.mpr ⟨lw_p14, List.forall_mem_cons.mpr ⟨lw_p15, fun _ h => absurd h List.not_mem_nil⟩⟩⟩⟩⟩⟩⟩⟩⟩⟩⟩⟩⟩⟩⟩⟩
theorem lw_p16 : lw_okq (⟨"GuardedPacketsModel", "counted", "(II)V"⟩, 30) := ⟨⟨by decide +kernel, by decide +kernel⟩, List.mem_of_getElem? (i := 585) (by decide +kernel), List.mem_of_getElem? (i := 746) (by decide +kernel), List.mem_of_getElem? (i := 747) (by decide +kernel)⟩
theorem lw_p17 : lw_okq (⟨"GuardedPacketsModel", "encrypt", "(I)V"⟩, 30) := ⟨⟨by decide +kernel, by decide +kernel⟩, List.mem_of_getElem? (i := 585) (by decide +kernel), List.mem_of_getElem? (i := 750) (by decide +kernel), List.mem_of_getElem? (i := 751) (by decide +kernel)⟩
theorem lw_p18 : lw_okq (⟨"GuardedPacketsModel", "addWords", "(II)V"⟩, 30) := ⟨⟨by decide +kernel, by decide +kernel⟩, List.mem_of_getElem? (i := 585) (by decide +kernel), List.mem_of_getElem? (i := 754) (by decide +kernel), List.mem_of_getElem? (i := 755) (by decide +kernel)⟩
theorem lw_p19 : lw_okq (⟨"GuardedPacketsModel", "round", "(Z)V"⟩, 30) := ⟨⟨by decide +kernel, by decide +kernel⟩, List.mem_of_getElem? (i := 585) (by decide +kernel), List.mem_of_getElem? (i := 758) (by decide +kernel), List.mem_of_getElem? (i := 759) (by decide +kernel)⟩
theorem lw_p20 : lw_okq (⟨"GuardedPacketsModel", "makeSeal", "(IJI)V"⟩, 30) := ⟨⟨by decide +kernel, by decide +kernel⟩, List.mem_of_getElem? (i := 585) (by decide +kernel), List.mem_of_getElem? (i := 762) (by decide +kernel), List.mem_of_getElem? (i := 763) (by decide +kernel)⟩
theorem lw_p21 : lw_okq (⟨"GuardedPacketsModel", "meet", "(II)V"⟩, 30) := ⟨⟨by decide +kernel, by decide +kernel⟩, List.mem_of_getElem? (i := 585) (by decide +kernel), List.mem_of_getElem? (i := 766) (by decide +kernel), List.mem_of_getElem? (i := 767) (by decide +kernel)⟩
theorem lw_p22 : lw_okq (⟨"GuardedPacketsModel", "multiply", "()V"⟩, 30) := ⟨⟨by decide +kernel, by decide +kernel⟩, List.mem_of_getElem? (i := 585) (by decide +kernel), List.mem_of_getElem? (i := 770) (by decide +kernel), List.mem_of_getElem? (i := 771) (by decide +kernel)⟩
theorem lw_p23 : lw_okq (⟨"GuardedPacketsModel", "fourBytes", "(I)J"⟩, 30) := ⟨⟨by decide +kernel, by decide +kernel⟩, List.mem_of_getElem? (i := 585) (by decide +kernel), List.mem_of_getElem? (i := 809) (by decide +kernel), List.mem_of_getElem? (i := 810) (by decide +kernel)⟩
theorem lw_p24 : lw_okq (⟨"GuardedPacketsModel", "isGiven", "(IJ)Z"⟩, 30) := ⟨⟨by decide +kernel, by decide +kernel⟩, List.mem_of_getElem? (i := 585) (by decide +kernel), List.mem_of_getElem? (i := 813) (by decide +kernel), List.mem_of_getElem? (i := 814) (by decide +kernel)⟩
theorem lw_p25 : lw_okq (⟨"GuardedPacketsModel", "isSealed", "(IJI)Z"⟩, 30) := ⟨⟨by decide +kernel, by decide +kernel⟩, List.mem_of_getElem? (i := 585) (by decide +kernel), List.mem_of_getElem? (i := 817) (by decide +kernel), List.mem_of_getElem? (i := 818) (by decide +kernel)⟩
theorem lw_p26 : lw_okq (⟨"GuardedPacketsModel", "give", "(IJ)V"⟩, 30) := ⟨⟨by decide +kernel, by decide +kernel⟩, List.mem_of_getElem? (i := 585) (by decide +kernel), List.mem_of_getElem? (i := 821) (by decide +kernel), List.mem_of_getElem? (i := 822) (by decide +kernel)⟩
theorem lw_p27 : lw_okq (⟨"GuardedPacketsModel", "takeBody", "(II)I"⟩, 30) := ⟨⟨by decide +kernel, by decide +kernel⟩, List.mem_of_getElem? (i := 585) (by decide +kernel), List.mem_of_getElem? (i := 825) (by decide +kernel), List.mem_of_getElem? (i := 826) (by decide +kernel)⟩
def lw_privs_2 : List (MethodName × Nat) := [(⟨"GuardedPacketsModel", "counted", "(II)V"⟩, 30), (⟨"GuardedPacketsModel", "encrypt", "(I)V"⟩, 30), (⟨"GuardedPacketsModel", "addWords", "(II)V"⟩, 30), (⟨"GuardedPacketsModel", "round", "(Z)V"⟩, 30), (⟨"GuardedPacketsModel", "makeSeal", "(IJI)V"⟩, 30), (⟨"GuardedPacketsModel", "meet", "(II)V"⟩, 30), (⟨"GuardedPacketsModel", "multiply", "()V"⟩, 30), (⟨"GuardedPacketsModel", "fourBytes", "(I)J"⟩, 30), (⟨"GuardedPacketsModel", "isGiven", "(IJ)Z"⟩, 30), (⟨"GuardedPacketsModel", "isSealed", "(IJI)Z"⟩, 30), (⟨"GuardedPacketsModel", "give", "(IJ)V"⟩, 30), (⟨"GuardedPacketsModel", "takeBody", "(II)I"⟩, 30)]
theorem lw_r2 : ∀ q ∈ lw_privs_2, lw_okq q := List.forall_mem_cons.mpr ⟨lw_p16, List.forall_mem_cons.mpr ⟨lw_p17, List.forall_mem_cons.mpr ⟨lw_p18, List.forall_mem_cons.mpr ⟨lw_p19, List.forall_mem_cons.mpr ⟨lw_p20, List.forall_mem_cons.mpr ⟨lw_p21, List.forall_mem_cons.mpr ⟨lw_p22, List.forall_mem_cons.mpr ⟨lw_p23, List.forall_mem_cons.mpr ⟨lw_p24, List.forall_mem_cons.mpr ⟨lw_p25, List.forall_mem_cons.mpr ⟨lw_p26, List.forall_mem_cons.mpr ⟨lw_p27, fun _ h => absurd h List.not_mem_nil⟩⟩⟩⟩⟩⟩⟩⟩⟩⟩⟩⟩
def lw_privs : List (MethodName × Nat) := lw_privs_1 ++ (lw_privs_2)
def lw_tbl : List Cond := k2_sels lw_privs ++ tables_1
theorem lw_privs_ok : ∀ q ∈ lw_privs, lw_okq q := by
  show ∀ q ∈ lw_privs_1 ++ (lw_privs_2), lw_okq q
  exact List.forall_mem_append.mpr ⟨lw_r1, lw_r2⟩
/-! a world by addresses: every address has at most one kind; a kind says what its cell may hold -/
def tb : List Cond := lw_tbl.filter goodWord
theorem tb_of {w : Cond} (h : w ∈ lw_tbl) (g : goodWord w = true) : w ∈ tb := List.mem_filter.mpr ⟨h, g⟩
theorem tb_in {w : Cond} (h : w ∈ tb) : w ∈ lw_tbl := (List.mem_filter.mp h).1
theorem tb_good {w : Cond} (h : w ∈ tb) : (w.onTables && w.keeps) = true ∨ ∃ ty, w = .arrayClass ty := good_of_word (List.mem_filter.mp h).2
theorem tb_gi {big ws : List Cond} (hb : ∀ w ∈ tb, w ∈ big) (hw : ∀ w ∈ ws, w ∈ tb) : GoodIn big ws := fun w h => ⟨hb w (hw w h), tb_good (hw w h)⟩
theorem tb_tab {w : Cond} (h : w ∈ tables_1) : w ∈ lw_tbl := List.mem_append_right _ h
theorem tb_1 {w : Cond} (i : Nat) (h : tables_1_1[i]? = some w) (g : goodWord w = true) : w ∈ tb := tb_of (tb_tab (List.mem_append_left _ (List.mem_of_getElem? h))) g
theorem tb_2 {w : Cond} (i : Nat) (h : tables_1_2[i]? = some w) (g : goodWord w = true) : w ∈ tb := tb_of (tb_tab (List.mem_append_right _ (List.mem_append_left _ (List.mem_of_getElem? h)))) g
theorem tb_3 {w : Cond} (i : Nat) (h : tables_1_3[i]? = some w) (g : goodWord w = true) : w ∈ tb := tb_of (tb_tab (List.mem_append_right _ (List.mem_append_right _ (List.mem_append_left _ (List.mem_of_getElem? h))))) g
theorem tb_4 {w : Cond} (i : Nat) (h : tables_1_4[i]? = some w) (g : goodWord w = true) : w ∈ tb := tb_of (tb_tab (List.mem_append_right _ (List.mem_append_right _ (List.mem_append_right _ (List.mem_of_getElem? h))))) g
theorem tb_s {w : Cond} (q : MethodName × Nat) (hq : q ∈ lw_privs) (h : Cond.selects q.1.cls q.1 q.1 = w) (g : goodWord w = true) : w ∈ tb := tb_of (List.mem_append_left _ (by subst h; exact List.mem_map.mpr ⟨q, hq, rfl⟩)) g
end
section
def R_As : String := "GuardedPackets$Association"
def F_As : u_T := fun k => match k with
  | 0 => ("GuardedPackets$Association", "cipher", "LGuardedPackets$Cipher;", true)
  | 1 => ("GuardedPackets$Association", "window", "LGuardedPackets$Window;", true)
  | 2 => ("GuardedPackets$Association", "title", "I", false)
  | 3 => ("GuardedPackets$Association", "salt", "I", false)
  | 4 => ("GuardedPackets$Association", "extended", "Z", false)
  | 5 => ("GuardedPackets$Association", "factorHigh", "J", false)
  | 6 => ("GuardedPackets$Association", "factorLow", "J", false)
  | 7 => ("GuardedPackets$Association", "last", "J", false)
  | 8 => ("GuardedPackets$Association", "lifeLeft", "I", false)
  | 9 => ("GuardedPackets$Association", "givenTimes", "J", false)
  | 10 => ("GuardedPackets$Association", "staleTimes", "J", false)
  | _ => ("GuardedPackets$Association", "wrongTimes", "J", false)
def t_As : Nat → FieldType := fun k => match k with
  | 0 => .object "GuardedPackets$Cipher"
  | 1 => .object "GuardedPackets$Window"
  | 2 => .int
  | 3 => .int
  | 4 => .boolean
  | 5 => .long
  | 6 => .long
  | 7 => .long
  | 8 => .int
  | 9 => .long
  | 10 => .long
  | _ => .long
theorem n_As : ∀ a, a < 12 → ∀ b, b < 12 → a ≠ b → (F_As a).2.1 ≠ (F_As b).2.1 := by decide +kernel
theorem tk_As : ∀ k, k < 12 → parseFieldDescriptor (F_As k).2.2.1 = some (t_As k) := by decide +kernel
theorem la_As_0 : u_lay R_As F_As 0 ∈ tb := tb_1 131 rfl rfl
theorem la_As_1 : u_lay R_As F_As 1 ∈ tb := tb_1 133 rfl rfl
theorem la_As_2 : u_lay R_As F_As 2 ∈ tb := tb_1 135 rfl rfl
theorem la_As_3 : u_lay R_As F_As 3 ∈ tb := tb_1 137 rfl rfl
theorem la_As_4 : u_lay R_As F_As 4 ∈ tb := tb_1 139 rfl rfl
theorem la_As_5 : u_lay R_As F_As 5 ∈ tb := tb_1 141 rfl rfl
theorem la_As_6 : u_lay R_As F_As 6 ∈ tb := tb_1 143 rfl rfl
theorem la_As_7 : u_lay R_As F_As 7 ∈ tb := tb_1 145 rfl rfl
theorem la_As_8 : u_lay R_As F_As 8 ∈ tb := tb_1 147 rfl rfl
theorem la_As_9 : u_lay R_As F_As 9 ∈ tb := tb_1 149 rfl rfl
theorem la_As_10 : u_lay R_As F_As 10 ∈ tb := tb_1 151 rfl rfl
theorem la_As_11 : u_lay R_As F_As 11 ∈ tb := tb_1 153 rfl rfl
theorem i_As : ∀ w ∈ u_ws R_As F_As 12, w ∈ tb := by
  intro w h
  obtain ⟨k, hk, rfl⟩ := List.mem_map.mp h
  have hk := List.mem_range.mp hk
  match k, hk with
  | 0, _ => exact la_As_0
  | 1, _ => exact la_As_1
  | 2, _ => exact la_As_2
  | 3, _ => exact la_As_3
  | 4, _ => exact la_As_4
  | 5, _ => exact la_As_5
  | 6, _ => exact la_As_6
  | 7, _ => exact la_As_7
  | 8, _ => exact la_As_8
  | 9, _ => exact la_As_9
  | 10, _ => exact la_As_10
  | 11, _ => exact la_As_11
  | k + 12, hk => exact absurd hk (by omega)
def R_Ch : String := "GuardedPackets$Check"
def F_Ch : u_T := fun k => match k with
  | 0 => ("GuardedPackets$Check", "high", "J", false)
  | _ => ("GuardedPackets$Check", "low", "J", false)
def t_Ch : Nat → FieldType := fun k => match k with
  | 0 => .long
  | _ => .long
theorem n_Ch : ∀ a, a < 2 → ∀ b, b < 2 → a ≠ b → (F_Ch a).2.1 ≠ (F_Ch b).2.1 := by decide +kernel
theorem tk_Ch : ∀ k, k < 2 → parseFieldDescriptor (F_Ch k).2.2.1 = some (t_Ch k) := by decide +kernel
theorem la_Ch_0 : u_lay R_Ch F_Ch 0 ∈ tb := tb_1 58 rfl rfl
theorem la_Ch_1 : u_lay R_Ch F_Ch 1 ∈ tb := tb_1 60 rfl rfl
theorem i_Ch : ∀ w ∈ u_ws R_Ch F_Ch 2, w ∈ tb := by
  intro w h
  obtain ⟨k, hk, rfl⟩ := List.mem_map.mp h
  have hk := List.mem_range.mp hk
  match k, hk with
  | 0, _ => exact la_Ch_0
  | 1, _ => exact la_Ch_1
  | k + 2, hk => exact absurd hk (by omega)
def R_Ci : String := "GuardedPackets$Cipher"
def F_Ci : u_T := fun k => match k with
  | 0 => ("GuardedPackets$Cipher", "words", "[I", true)
  | 1 => ("GuardedPackets$Cipher", "high", "J", false)
  | _ => ("GuardedPackets$Cipher", "low", "J", false)
def t_Ci : Nat → FieldType := fun k => match k with
  | 0 => .array .int
  | 1 => .long
  | _ => .long
theorem n_Ci : ∀ a, a < 3 → ∀ b, b < 3 → a ≠ b → (F_Ci a).2.1 ≠ (F_Ci b).2.1 := by decide +kernel
theorem tk_Ci : ∀ k, k < 3 → parseFieldDescriptor (F_Ci k).2.2.1 = some (t_Ci k) := by decide +kernel
theorem la_Ci_0 : u_lay R_Ci F_Ci 0 ∈ tb := tb_1 79 rfl rfl
theorem la_Ci_1 : u_lay R_Ci F_Ci 1 ∈ tb := tb_1 81 rfl rfl
theorem la_Ci_2 : u_lay R_Ci F_Ci 2 ∈ tb := tb_1 83 rfl rfl
theorem i_Ci : ∀ w ∈ u_ws R_Ci F_Ci 3, w ∈ tb := by
  intro w h
  obtain ⟨k, hk, rfl⟩ := List.mem_map.mp h
  have hk := List.mem_range.mp hk
  match k, hk with
  | 0, _ => exact la_Ci_0
  | 1, _ => exact la_Ci_1
  | 2, _ => exact la_Ci_2
  | k + 3, hk => exact absurd hk (by omega)
def R_Ro : String := "GuardedPackets$Row"
def F_Ro : u_T := fun k => match k with
  | 0 => ("GuardedPackets$Row", "bytes", "[B", true)
  | 1 => ("GuardedPackets$Row", "length", "I", false)
  | _ => ("GuardedPackets$Row", "isThere", "Z", false)
def t_Ro : Nat → FieldType := fun k => match k with
  | 0 => .array .byte
  | 1 => .int
  | _ => .boolean
theorem n_Ro : ∀ a, a < 3 → ∀ b, b < 3 → a ≠ b → (F_Ro a).2.1 ≠ (F_Ro b).2.1 := by decide +kernel
theorem tk_Ro : ∀ k, k < 3 → parseFieldDescriptor (F_Ro k).2.2.1 = some (t_Ro k) := by decide +kernel
theorem la_Ro_0 : u_lay R_Ro F_Ro 0 ∈ tb := tb_1 37 rfl rfl
theorem la_Ro_1 : u_lay R_Ro F_Ro 1 ∈ tb := tb_1 39 rfl rfl
theorem la_Ro_2 : u_lay R_Ro F_Ro 2 ∈ tb := tb_1 41 rfl rfl
theorem i_Ro : ∀ w ∈ u_ws R_Ro F_Ro 3, w ∈ tb := by
  intro w h
  obtain ⟨k, hk, rfl⟩ := List.mem_map.mp h
  have hk := List.mem_range.mp hk
  match k, hk with
  | 0, _ => exact la_Ro_0
  | 1, _ => exact la_Ro_1
  | 2, _ => exact la_Ro_2
  | k + 3, hk => exact absurd hk (by omega)
def R_Wi : String := "GuardedPackets$Window"
def F_Wi : u_T := fun k => match k with
  | 0 => ("GuardedPackets$Window", "bits", "[I", true)
  | 1 => ("GuardedPackets$Window", "width", "I", false)
  | _ => ("GuardedPackets$Window", "top", "J", false)
def t_Wi : Nat → FieldType := fun k => match k with
  | 0 => .array .int
  | 1 => .int
  | _ => .long
theorem n_Wi : ∀ a, a < 3 → ∀ b, b < 3 → a ≠ b → (F_Wi a).2.1 ≠ (F_Wi b).2.1 := by decide +kernel
theorem tk_Wi : ∀ k, k < 3 → parseFieldDescriptor (F_Wi k).2.2.1 = some (t_Wi k) := by decide +kernel
theorem la_Wi_0 : u_lay R_Wi F_Wi 0 ∈ tb := tb_1 100 rfl rfl
theorem la_Wi_1 : u_lay R_Wi F_Wi 1 ∈ tb := tb_1 102 rfl rfl
theorem la_Wi_2 : u_lay R_Wi F_Wi 2 ∈ tb := tb_1 104 rfl rfl
theorem i_Wi : ∀ w ∈ u_ws R_Wi F_Wi 3, w ∈ tb := by
  intro w h
  obtain ⟨k, hk, rfl⟩ := List.mem_map.mp h
  have hk := List.mem_range.mp hk
  match k, hk with
  | 0, _ => exact la_Wi_0
  | 1, _ => exact la_Wi_1
  | 2, _ => exact la_Wi_2
  | k + 3, hk => exact absurd hk (by omega)
def R_Gp : String := "GuardedPackets"
def F_Gp : u_T := fun k => match k with
  | 0 => ("GuardedPackets", "associations", "[LGuardedPackets$Association;", true)
  | 1 => ("GuardedPackets", "count", "I", false)
  | 2 => ("GuardedPackets", "fed", "LGuardedPackets$Row;", true)
  | 3 => ("GuardedPackets", "sent", "LGuardedPackets$Row;", true)
  | 4 => ("GuardedPackets", "places", "[LGuardedPackets$Row;", true)
  | 5 => ("GuardedPackets", "plain", "LGuardedPackets$Row;", true)
  | 6 => ("GuardedPackets", "gained", "LGuardedPackets$Row;", true)
  | _ => ("GuardedPackets", "check", "LGuardedPackets$Check;", true)
def t_Gp : Nat → FieldType := fun k => match k with
  | 0 => .array (.object "GuardedPackets$Association")
  | 1 => .int
  | 2 => .object "GuardedPackets$Row"
  | 3 => .object "GuardedPackets$Row"
  | 4 => .array (.object "GuardedPackets$Row")
  | 5 => .object "GuardedPackets$Row"
  | 6 => .object "GuardedPackets$Row"
  | _ => .object "GuardedPackets$Check"
theorem n_Gp : ∀ a, a < 8 → ∀ b, b < 8 → a ≠ b → (F_Gp a).2.1 ≠ (F_Gp b).2.1 := by decide +kernel
theorem tk_Gp : ∀ k, k < 8 → parseFieldDescriptor (F_Gp k).2.2.1 = some (t_Gp k) := by decide +kernel
theorem la_Gp_0 : u_lay R_Gp F_Gp 0 ∈ tb := tb_1 164 rfl rfl
theorem la_Gp_1 : u_lay R_Gp F_Gp 1 ∈ tb := tb_1 166 rfl rfl
theorem la_Gp_2 : u_lay R_Gp F_Gp 2 ∈ tb := tb_1 168 rfl rfl
theorem la_Gp_3 : u_lay R_Gp F_Gp 3 ∈ tb := tb_1 170 rfl rfl
theorem la_Gp_4 : u_lay R_Gp F_Gp 4 ∈ tb := tb_1 172 rfl rfl
theorem la_Gp_5 : u_lay R_Gp F_Gp 5 ∈ tb := tb_1 174 rfl rfl
theorem la_Gp_6 : u_lay R_Gp F_Gp 6 ∈ tb := tb_1 176 rfl rfl
theorem la_Gp_7 : u_lay R_Gp F_Gp 7 ∈ tb := tb_1 178 rfl rfl
theorem i_Gp : ∀ w ∈ u_ws R_Gp F_Gp 8, w ∈ tb := by
  intro w h
  obtain ⟨k, hk, rfl⟩ := List.mem_map.mp h
  have hk := List.mem_range.mp hk
  match k, hk with
  | 0, _ => exact la_Gp_0
  | 1, _ => exact la_Gp_1
  | 2, _ => exact la_Gp_2
  | 3, _ => exact la_Gp_3
  | 4, _ => exact la_Gp_4
  | 5, _ => exact la_Gp_5
  | 6, _ => exact la_Gp_6
  | 7, _ => exact la_Gp_7
  | k + 8, hk => exact absurd hk (by omega)
def R_Mo : String := "GuardedPacketsModel"
def F_Mo : u_T := fun k => match k with
  | 0 => ("GuardedPacketsModel", "thrown", "I", false)
  | 1 => ("GuardedPacketsModel", "sub", "[I", true)
  | 2 => ("GuardedPacketsModel", "used", "[Z", true)
  | 3 => ("GuardedPacketsModel", "names", "[I", true)
  | 4 => ("GuardedPacketsModel", "words", "[I", true)
  | 5 => ("GuardedPacketsModel", "salts", "[I", true)
  | 6 => ("GuardedPacketsModel", "windows", "[I", true)
  | 7 => ("GuardedPacketsModel", "extended", "[Z", true)
  | 8 => ("GuardedPacketsModel", "lasts", "[J", true)
  | 9 => ("GuardedPacketsModel", "lives", "[I", true)
  | 10 => ("GuardedPacketsModel", "tops", "[J", true)
  | 11 => ("GuardedPacketsModel", "counts", "[J", true)
  | 12 => ("GuardedPacketsModel", "threes", "[I", true)
  | 13 => ("GuardedPacketsModel", "fours", "[I", true)
  | 14 => ("GuardedPacketsModel", "givenOut", "[J", true)
  | 15 => ("GuardedPacketsModel", "listed", "[I", true)
  | 16 => ("GuardedPacketsModel", "row", "[I", true)
  | 17 => ("GuardedPacketsModel", "fed", "I", false)
  | 18 => ("GuardedPacketsModel", "sent", "[I", true)
  | 19 => ("GuardedPacketsModel", "length", "I", false)
  | 20 => ("GuardedPacketsModel", "kept", "[I", true)
  | 21 => ("GuardedPacketsModel", "keptSizes", "[I", true)
  | 22 => ("GuardedPacketsModel", "result", "[I", true)
  | 23 => ("GuardedPacketsModel", "gotten", "I", false)
  | 24 => ("GuardedPacketsModel", "block", "[I", true)
  | 25 => ("GuardedPacketsModel", "moved", "[I", true)
  | 26 => ("GuardedPacketsModel", "check", "[I", true)
  | 27 => ("GuardedPacketsModel", "factor", "[I", true)
  | 28 => ("GuardedPacketsModel", "product", "[I", true)
  | _ => ("GuardedPacketsModel", "tag", "[I", true)
def t_Mo : Nat → FieldType := fun k => match k with
  | 0 => .int
  | 1 => .array .int
  | 2 => .array .boolean
  | 3 => .array .int
  | 4 => .array .int
  | 5 => .array .int
  | 6 => .array .int
  | 7 => .array .boolean
  | 8 => .array .long
  | 9 => .array .int
  | 10 => .array .long
  | 11 => .array .long
  | 12 => .array .int
  | 13 => .array .int
  | 14 => .array .long
  | 15 => .array .int
  | 16 => .array .int
  | 17 => .int
  | 18 => .array .int
  | 19 => .int
  | 20 => .array .int
  | 21 => .array .int
  | 22 => .array .int
  | 23 => .int
  | 24 => .array .int
  | 25 => .array .int
  | 26 => .array .int
  | 27 => .array .int
  | 28 => .array .int
  | _ => .array .int
theorem n_Mo : ∀ a, a < 30 → ∀ b, b < 30 → a ≠ b → (F_Mo a).2.1 ≠ (F_Mo b).2.1 := by decide +kernel
theorem tk_Mo : ∀ k, k < 30 → parseFieldDescriptor (F_Mo k).2.2.1 = some (t_Mo k) := by decide +kernel
theorem la_Mo_0 : u_lay R_Mo F_Mo 0 ∈ tb := tb_3 143 rfl rfl
theorem la_Mo_1 : u_lay R_Mo F_Mo 1 ∈ tb := tb_3 145 rfl rfl
theorem la_Mo_2 : u_lay R_Mo F_Mo 2 ∈ tb := tb_3 147 rfl rfl
theorem la_Mo_3 : u_lay R_Mo F_Mo 3 ∈ tb := tb_3 149 rfl rfl
theorem la_Mo_4 : u_lay R_Mo F_Mo 4 ∈ tb := tb_3 151 rfl rfl
theorem la_Mo_5 : u_lay R_Mo F_Mo 5 ∈ tb := tb_3 153 rfl rfl
theorem la_Mo_6 : u_lay R_Mo F_Mo 6 ∈ tb := tb_3 155 rfl rfl
theorem la_Mo_7 : u_lay R_Mo F_Mo 7 ∈ tb := tb_3 157 rfl rfl
theorem la_Mo_8 : u_lay R_Mo F_Mo 8 ∈ tb := tb_3 159 rfl rfl
theorem la_Mo_9 : u_lay R_Mo F_Mo 9 ∈ tb := tb_3 161 rfl rfl
theorem la_Mo_10 : u_lay R_Mo F_Mo 10 ∈ tb := tb_3 163 rfl rfl
theorem la_Mo_11 : u_lay R_Mo F_Mo 11 ∈ tb := tb_3 165 rfl rfl
theorem la_Mo_12 : u_lay R_Mo F_Mo 12 ∈ tb := tb_3 167 rfl rfl
theorem la_Mo_13 : u_lay R_Mo F_Mo 13 ∈ tb := tb_3 169 rfl rfl
theorem la_Mo_14 : u_lay R_Mo F_Mo 14 ∈ tb := tb_3 171 rfl rfl
theorem la_Mo_15 : u_lay R_Mo F_Mo 15 ∈ tb := tb_3 173 rfl rfl
theorem la_Mo_16 : u_lay R_Mo F_Mo 16 ∈ tb := tb_3 175 rfl rfl
theorem la_Mo_17 : u_lay R_Mo F_Mo 17 ∈ tb := tb_3 177 rfl rfl
theorem la_Mo_18 : u_lay R_Mo F_Mo 18 ∈ tb := tb_3 179 rfl rfl
theorem la_Mo_19 : u_lay R_Mo F_Mo 19 ∈ tb := tb_3 181 rfl rfl
theorem la_Mo_20 : u_lay R_Mo F_Mo 20 ∈ tb := tb_3 183 rfl rfl
theorem la_Mo_21 : u_lay R_Mo F_Mo 21 ∈ tb := tb_3 185 rfl rfl
theorem la_Mo_22 : u_lay R_Mo F_Mo 22 ∈ tb := tb_3 187 rfl rfl
theorem la_Mo_23 : u_lay R_Mo F_Mo 23 ∈ tb := tb_3 189 rfl rfl
theorem la_Mo_24 : u_lay R_Mo F_Mo 24 ∈ tb := tb_3 191 rfl rfl
theorem la_Mo_25 : u_lay R_Mo F_Mo 25 ∈ tb := tb_3 193 rfl rfl
theorem la_Mo_26 : u_lay R_Mo F_Mo 26 ∈ tb := tb_3 195 rfl rfl
theorem la_Mo_27 : u_lay R_Mo F_Mo 27 ∈ tb := tb_3 197 rfl rfl
theorem la_Mo_28 : u_lay R_Mo F_Mo 28 ∈ tb := tb_3 199 rfl rfl
theorem la_Mo_29 : u_lay R_Mo F_Mo 29 ∈ tb := tb_3 201 rfl rfl
theorem i_Mo : ∀ w ∈ u_ws R_Mo F_Mo 30, w ∈ tb := by
  intro w h
  obtain ⟨k, hk, rfl⟩ := List.mem_map.mp h
  have hk := List.mem_range.mp hk
  match k, hk with
  | 0, _ => exact la_Mo_0
  | 1, _ => exact la_Mo_1
  | 2, _ => exact la_Mo_2
  | 3, _ => exact la_Mo_3
  | 4, _ => exact la_Mo_4
  | 5, _ => exact la_Mo_5
  | 6, _ => exact la_Mo_6
  | 7, _ => exact la_Mo_7
  | 8, _ => exact la_Mo_8
  | 9, _ => exact la_Mo_9
  | 10, _ => exact la_Mo_10
  | 11, _ => exact la_Mo_11
  | 12, _ => exact la_Mo_12
  | 13, _ => exact la_Mo_13
  | 14, _ => exact la_Mo_14
  | 15, _ => exact la_Mo_15
  | 16, _ => exact la_Mo_16
  | 17, _ => exact la_Mo_17
  | 18, _ => exact la_Mo_18
  | 19, _ => exact la_Mo_19
  | 20, _ => exact la_Mo_20
  | 21, _ => exact la_Mo_21
  | 22, _ => exact la_Mo_22
  | 23, _ => exact la_Mo_23
  | 24, _ => exact la_Mo_24
  | 25, _ => exact la_Mo_25
  | 26, _ => exact la_Mo_26
  | 27, _ => exact la_Mo_27
  | 28, _ => exact la_Mo_28
  | 29, _ => exact la_Mo_29
  | k + 30, hk => exact absurd hk (by omega)
def R_La : String := "GuardedPacketsLaw"
abbrev gcl : List vw_C := [(R_As, F_As, 12), (R_Ch, F_Ch, 2), (R_Ci, F_Ci, 3), (R_Ro, F_Ro, 3), (R_Wi, F_Wi, 3), (R_Gp, F_Gp, 8), (R_Mo, F_Mo, 30)]
def y_Gp_init : MethodName := ⟨R_Gp, "<init>", "()V"⟩
abbrev b_Gp_init : ByteArray := prog_1_method_1_code
def y_Gp_add : MethodName := ⟨R_Gp, "add", "(IJJIIZ)Z"⟩
abbrev b_Gp_add : ByteArray := prog_1_method_2_code
def y_Gp_drop : MethodName := ⟨R_Gp, "drop", "(I)Z"⟩
abbrev b_Gp_drop : ByteArray := prog_1_method_3_code
def y_Gp_hurry : MethodName := ⟨R_Gp, "hurry", "(IJ)V"⟩
abbrev b_Gp_hurry : ByteArray := prog_1_method_4_code
def y_Gp_life : MethodName := ⟨R_Gp, "life", "(II)I"⟩
abbrev b_Gp_life : ByteArray := prog_1_method_5_code
def y_Gp_feed : MethodName := ⟨R_Gp, "feed", "(IJ)I"⟩
abbrev b_Gp_feed : ByteArray := prog_1_method_6_code
def y_Gp_wipe : MethodName := ⟨R_Gp, "wipe", "()I"⟩
abbrev b_Gp_wipe : ByteArray := prog_1_method_7_code
def y_Gp_seal : MethodName := ⟨R_Gp, "seal", "(II)I"⟩
abbrev b_Gp_seal : ByteArray := prog_1_method_8_code
def y_Gp_size : MethodName := ⟨R_Gp, "size", "()I"⟩
abbrev b_Gp_size : ByteArray := prog_1_method_9_code
def y_Gp_packet : MethodName := ⟨R_Gp, "packet", "(I)J"⟩
abbrev b_Gp_packet : ByteArray := prog_1_method_10_code
def y_Gp_spoil : MethodName := ⟨R_Gp, "spoil", "(II)I"⟩
abbrev b_Gp_spoil : ByteArray := prog_1_method_11_code
def y_Gp_cut : MethodName := ⟨R_Gp, "cut", "(I)V"⟩
abbrev b_Gp_cut : ByteArray := prog_1_method_12_code
def y_Gp_keep : MethodName := ⟨R_Gp, "keep", "(I)V"⟩
abbrev b_Gp_keep : ByteArray := prog_1_method_13_code
def y_Gp_bring : MethodName := ⟨R_Gp, "bring", "(I)I"⟩
abbrev b_Gp_bring : ByteArray := prog_1_method_14_code
def y_Gp_open : MethodName := ⟨R_Gp, "open", "()I"⟩
abbrev b_Gp_open : ByteArray := prog_1_method_15_code
def y_Gp_got : MethodName := ⟨R_Gp, "got", "()I"⟩
abbrev b_Gp_got : ByteArray := prog_1_method_16_code
def y_Gp_data : MethodName := ⟨R_Gp, "data", "(I)J"⟩
abbrev b_Gp_data : ByteArray := prog_1_method_17_code
def y_Gp_told : MethodName := ⟨R_Gp, "told", "(II)J"⟩
abbrev b_Gp_told : ByteArray := prog_1_method_18_code
def y_Gp_given : MethodName := ⟨R_Gp, "given", "(II)J"⟩
abbrev b_Gp_given : ByteArray := prog_1_method_19_code
def y_Gp_name : MethodName := ⟨R_Gp, "name", "(I)I"⟩
abbrev b_Gp_name : ByteArray := prog_1_method_20_code
def y_Gp_isWindow : MethodName := ⟨R_Gp, "isWindow", "(I)Z"⟩
abbrev b_Gp_isWindow : ByteArray := prog_1_method_21_code
def y_Gp_isByte : MethodName := ⟨R_Gp, "isByte", "(I)Z"⟩
abbrev b_Gp_isByte : ByteArray := prog_1_method_22_code
def y_Gp_isPlace : MethodName := ⟨R_Gp, "isPlace", "(I)Z"⟩
abbrev b_Gp_isPlace : ByteArray := prog_1_method_23_code
def y_Gp_placeOf : MethodName := ⟨R_Gp, "placeOf", "(I)I"⟩
abbrev b_Gp_placeOf : ByteArray := prog_1_method_24_code
def y_Gp_isAt : MethodName := ⟨R_Gp, "isAt", "(II)Z"⟩
abbrev b_Gp_isAt : ByteArray := prog_1_method_25_code
def y_Gp_known : MethodName := ⟨R_Gp, "known", "(I)LGuardedPackets$Association;"⟩
abbrev b_Gp_known : ByteArray := prog_1_method_26_code
def y_Gp_writePlain : MethodName := ⟨R_Gp, "writePlain", "(LGuardedPackets$Association;I)V"⟩
abbrev b_Gp_writePlain : ByteArray := prog_1_method_27_code
def y_Gp_isSealRight : MethodName := ⟨R_Gp, "isSealRight", "(LGuardedPackets$Association;J)Z"⟩
abbrev b_Gp_isSealRight : ByteArray := prog_1_method_28_code
def y_Gp_unpack : MethodName := ⟨R_Gp, "unpack", "(LGuardedPackets$Association;)I"⟩
abbrev b_Gp_unpack : ByteArray := prog_1_method_29_code
def y_Gp_isFillRight : MethodName := ⟨R_Gp, "isFillRight", "(I)Z"⟩
abbrev b_Gp_isFillRight : ByteArray := prog_1_method_30_code
def y_Mo_init : MethodName := ⟨R_Mo, "<init>", "()V"⟩
abbrev b_Mo_init : ByteArray := prog_8_method_1_code
def y_Mo_thrown : MethodName := ⟨R_Mo, "thrown", "()I"⟩
abbrev b_Mo_thrown : ByteArray := prog_8_method_2_code
def y_Mo_times : MethodName := ⟨R_Mo, "times", "(II)I"⟩
abbrev b_Mo_times : ByteArray := prog_8_method_3_code
def y_Mo_spreadKey : MethodName := ⟨R_Mo, "spreadKey", "(IJJ)V"⟩
abbrev b_Mo_spreadKey : ByteArray := prog_8_method_4_code
def y_Mo_addWords : MethodName := ⟨R_Mo, "addWords", "(II)V"⟩
abbrev b_Mo_addWords : ByteArray := prog_8_method_5_code
def y_Mo_round : MethodName := ⟨R_Mo, "round", "(Z)V"⟩
abbrev b_Mo_round : ByteArray := prog_8_method_6_code
def y_Mo_encrypt : MethodName := ⟨R_Mo, "encrypt", "(I)V"⟩
abbrev b_Mo_encrypt : ByteArray := prog_8_method_7_code
def y_Mo_counted : MethodName := ⟨R_Mo, "counted", "(II)V"⟩
abbrev b_Mo_counted : ByteArray := prog_8_method_8_code
def y_Mo_bit : MethodName := ⟨R_Mo, "bit", "([II)I"⟩
abbrev b_Mo_bit : ByteArray := prog_8_method_9_code
def y_Mo_multiply : MethodName := ⟨R_Mo, "multiply", "()V"⟩
abbrev b_Mo_multiply : ByteArray := prog_8_method_10_code
def y_Mo_meet : MethodName := ⟨R_Mo, "meet", "(II)V"⟩
abbrev b_Mo_meet : ByteArray := prog_8_method_11_code
def y_Mo_byteOf : MethodName := ⟨R_Mo, "byteOf", "(JI)I"⟩
abbrev b_Mo_byteOf : ByteArray := prog_8_method_12_code
def y_Mo_makeSeal : MethodName := ⟨R_Mo, "makeSeal", "(IJI)V"⟩
abbrev b_Mo_makeSeal : ByteArray := prog_8_method_13_code
def y_Mo_turnBody : MethodName := ⟨R_Mo, "turnBody", "(II)V"⟩
abbrev b_Mo_turnBody : ByteArray := prog_8_method_14_code
def y_Mo_find : MethodName := ⟨R_Mo, "find", "(I)I"⟩
abbrev b_Mo_find : ByteArray := prog_8_method_15_code
def y_Mo_greatest : MethodName := ⟨R_Mo, "greatest", "(I)J"⟩
abbrev b_Mo_greatest : ByteArray := prog_8_method_16_code
def y_Mo_add : MethodName := ⟨R_Mo, "add", "(IJJIIZ)Z"⟩
abbrev b_Mo_add : ByteArray := prog_8_method_17_code
def y_Mo_drop : MethodName := ⟨R_Mo, "drop", "(I)Z"⟩
abbrev b_Mo_drop : ByteArray := prog_8_method_18_code
def y_Mo_hurry : MethodName := ⟨R_Mo, "hurry", "(IJ)V"⟩
abbrev b_Mo_hurry : ByteArray := prog_8_method_19_code
def y_Mo_life : MethodName := ⟨R_Mo, "life", "(II)I"⟩
abbrev b_Mo_life : ByteArray := prog_8_method_20_code
def y_Mo_feed : MethodName := ⟨R_Mo, "feed", "(IJ)I"⟩
abbrev b_Mo_feed : ByteArray := prog_8_method_21_code
def y_Mo_wipe : MethodName := ⟨R_Mo, "wipe", "()I"⟩
abbrev b_Mo_wipe : ByteArray := prog_8_method_22_code
def y_Mo_put : MethodName := ⟨R_Mo, "put", "(I)V"⟩
abbrev b_Mo_put : ByteArray := prog_8_method_23_code
def y_Mo_seal : MethodName := ⟨R_Mo, "seal", "(II)I"⟩
abbrev b_Mo_seal : ByteArray := prog_8_method_24_code
def y_Mo_size : MethodName := ⟨R_Mo, "size", "()I"⟩
abbrev b_Mo_size : ByteArray := prog_8_method_25_code
def y_Mo_eight : MethodName := ⟨R_Mo, "eight", "([III)J"⟩
abbrev b_Mo_eight : ByteArray := prog_8_method_26_code
def y_Mo_packet : MethodName := ⟨R_Mo, "packet", "(I)J"⟩
abbrev b_Mo_packet : ByteArray := prog_8_method_27_code
def y_Mo_spoil : MethodName := ⟨R_Mo, "spoil", "(II)I"⟩
abbrev b_Mo_spoil : ByteArray := prog_8_method_28_code
def y_Mo_cut : MethodName := ⟨R_Mo, "cut", "(I)V"⟩
abbrev b_Mo_cut : ByteArray := prog_8_method_29_code
def y_Mo_keep : MethodName := ⟨R_Mo, "keep", "(I)V"⟩
abbrev b_Mo_keep : ByteArray := prog_8_method_30_code
def y_Mo_bring : MethodName := ⟨R_Mo, "bring", "(I)I"⟩
abbrev b_Mo_bring : ByteArray := prog_8_method_31_code
def y_Mo_fourBytes : MethodName := ⟨R_Mo, "fourBytes", "(I)J"⟩
abbrev b_Mo_fourBytes : ByteArray := prog_8_method_32_code
def y_Mo_isGiven : MethodName := ⟨R_Mo, "isGiven", "(IJ)Z"⟩
abbrev b_Mo_isGiven : ByteArray := prog_8_method_33_code
def y_Mo_give : MethodName := ⟨R_Mo, "give", "(IJ)V"⟩
abbrev b_Mo_give : ByteArray := prog_8_method_34_code
def y_Mo_isSealed : MethodName := ⟨R_Mo, "isSealed", "(IJI)Z"⟩
abbrev b_Mo_isSealed : ByteArray := prog_8_method_35_code
def y_Mo_takeBody : MethodName := ⟨R_Mo, "takeBody", "(II)I"⟩
abbrev b_Mo_takeBody : ByteArray := prog_8_method_36_code
def y_Mo_open : MethodName := ⟨R_Mo, "open", "()I"⟩
abbrev b_Mo_open : ByteArray := prog_8_method_37_code
def y_Mo_got : MethodName := ⟨R_Mo, "got", "()I"⟩
abbrev b_Mo_got : ByteArray := prog_8_method_38_code
def y_Mo_data : MethodName := ⟨R_Mo, "data", "(I)J"⟩
abbrev b_Mo_data : ByteArray := prog_8_method_39_code
def y_Mo_told : MethodName := ⟨R_Mo, "told", "(II)J"⟩
abbrev b_Mo_told : ByteArray := prog_8_method_40_code
def y_Mo_given : MethodName := ⟨R_Mo, "given", "(II)J"⟩
abbrev b_Mo_given : ByteArray := prog_8_method_41_code
def y_Mo_name : MethodName := ⟨R_Mo, "name", "(I)I"⟩
abbrev b_Mo_name : ByteArray := prog_8_method_42_code
def y_As_init : MethodName := ⟨R_As, "<init>", "()V"⟩
abbrev b_As_init : ByteArray := prog_2_method_1_code
def y_As_begin : MethodName := ⟨R_As, "begin", "(IIIZ)V"⟩
abbrev b_As_begin : ByteArray := prog_2_method_2_code
def y_As_takeKey : MethodName := ⟨R_As, "takeKey", "(JJ)V"⟩
abbrev b_As_takeKey : ByteArray := prog_2_method_3_code
def y_As_greatest : MethodName := ⟨R_As, "greatest", "()J"⟩
abbrev b_As_greatest : ByteArray := prog_2_method_4_code
def y_As_fullNumber : MethodName := ⟨R_As, "fullNumber", "(J)J"⟩
abbrev b_As_fullNumber : ByteArray := prog_2_method_5_code
def y_As_mayGiveOut : MethodName := ⟨R_As, "mayGiveOut", "(J)Z"⟩
abbrev b_As_mayGiveOut : ByteArray := prog_2_method_6_code
def y_As_giveOut : MethodName := ⟨R_As, "giveOut", "(J)V"⟩
abbrev b_As_giveOut : ByteArray := prog_2_method_7_code
def y_As_mask : MethodName := ⟨R_As, "mask", "(LGuardedPackets$Row;IJ)V"⟩
abbrev b_As_mask : ByteArray := prog_2_method_8_code
def y_As_maskCheck : MethodName := ⟨R_As, "maskCheck", "(LGuardedPackets$Check;J)V"⟩
abbrev b_As_maskCheck : ByteArray := prog_2_method_9_code
def y_As_encryptJ : MethodName := ⟨R_As, "encryptJ", "(JI)V"⟩
abbrev b_As_encryptJ : ByteArray := prog_2_method_10_code
def y_Ch_init : MethodName := ⟨R_Ch, "<init>", "()V"⟩
abbrev b_Ch_init : ByteArray := prog_3_method_1_code
def y_Ch_ofBody : MethodName := ⟨R_Ch, "ofBody", "(LGuardedPackets$Association;JLGuardedPackets$Row;I)V"⟩
abbrev b_Ch_ofBody : ByteArray := prog_3_method_2_code
def y_Ch_take : MethodName := ⟨R_Ch, "take", "(LGuardedPackets$Association;JJ)V"⟩
abbrev b_Ch_take : ByteArray := prog_3_method_3_code
def y_Ci_init : MethodName := ⟨R_Ci, "<init>", "()V"⟩
abbrev b_Ci_init : ByteArray := prog_4_method_1_code
def y_Ci_takeKey : MethodName := ⟨R_Ci, "takeKey", "(JJ)V"⟩
abbrev b_Ci_takeKey : ByteArray := prog_4_method_2_code
def y_Ci_encrypt : MethodName := ⟨R_Ci, "encrypt", "(IIII)V"⟩
abbrev b_Ci_encrypt : ByteArray := prog_4_method_3_code
def y_Ci_unsigned : MethodName := ⟨R_Ci, "unsigned", "(I)J"⟩
abbrev b_Ci_unsigned : ByteArray := prog_4_method_4_code
def y_Ci_subAcross : MethodName := ⟨R_Ci, "subAcross", "(IIII)I"⟩
abbrev b_Ci_subAcross : ByteArray := prog_4_method_5_code
def y_Ci_mixed : MethodName := ⟨R_Ci, "mixed", "(I)I"⟩
abbrev b_Ci_mixed : ByteArray := prog_4_method_6_code
def y_Ci_doubled : MethodName := ⟨R_Ci, "doubled", "(I)I"⟩
abbrev b_Ci_doubled : ByteArray := prog_4_method_7_code
def y_Ci_turn : MethodName := ⟨R_Ci, "turn", "(II)I"⟩
abbrev b_Ci_turn : ByteArray := prog_4_method_8_code
def y_Ro_init : MethodName := ⟨R_Ro, "<init>", "(I)V"⟩
abbrev b_Ro_init : ByteArray := prog_5_method_1_code
def y_Ro_clear : MethodName := ⟨R_Ro, "clear", "()V"⟩
abbrev b_Ro_clear : ByteArray := prog_5_method_2_code
def y_Ro_shorten : MethodName := ⟨R_Ro, "shorten", "(I)V"⟩
abbrev b_Ro_shorten : ByteArray := prog_5_method_3_code
def y_Ro_append : MethodName := ⟨R_Ro, "append", "(I)V"⟩
abbrev b_Ro_append : ByteArray := prog_5_method_4_code
def y_Ro_appendNumber : MethodName := ⟨R_Ro, "appendNumber", "(JI)V"⟩
abbrev b_Ro_appendNumber : ByteArray := prog_5_method_5_code
def y_Ro_appendRow : MethodName := ⟨R_Ro, "appendRow", "(LGuardedPackets$Row;II)V"⟩
abbrev b_Ro_appendRow : ByteArray := prog_5_method_6_code
def y_Ro_become : MethodName := ⟨R_Ro, "become", "(LGuardedPackets$Row;)V"⟩
abbrev b_Ro_become : ByteArray := prog_5_method_7_code
def y_Ro_at : MethodName := ⟨R_Ro, "at", "(J)I"⟩
abbrev b_Ro_at : ByteArray := prog_5_method_8_code
def y_Ro_put : MethodName := ⟨R_Ro, "put", "(II)V"⟩
abbrev b_Ro_put : ByteArray := prog_5_method_9_code
def y_Ro_number : MethodName := ⟨R_Ro, "number", "(II)J"⟩
abbrev b_Ro_number : ByteArray := prog_5_method_10_code
def y_Ro_numberUpTo : MethodName := ⟨R_Ro, "numberUpTo", "(III)J"⟩
abbrev b_Ro_numberUpTo : ByteArray := prog_5_method_11_code
def y_Ro_eightFrom : MethodName := ⟨R_Ro, "eightFrom", "(I)J"⟩
abbrev b_Ro_eightFrom : ByteArray := prog_5_method_12_code
def y_Wi_init : MethodName := ⟨R_Wi, "<init>", "()V"⟩
abbrev b_Wi_init : ByteArray := prog_6_method_1_code
def y_Wi_begin : MethodName := ⟨R_Wi, "begin", "(I)V"⟩
abbrev b_Wi_begin : ByteArray := prog_6_method_2_code
def y_Wi_isAbove : MethodName := ⟨R_Wi, "isAbove", "(J)Z"⟩
abbrev b_Wi_isAbove : ByteArray := prog_6_method_3_code
def y_Wi_has : MethodName := ⟨R_Wi, "has", "(J)Z"⟩
abbrev b_Wi_has : ByteArray := prog_6_method_4_code
def y_Wi_take : MethodName := ⟨R_Wi, "take", "(J)V"⟩
abbrev b_Wi_take : ByteArray := prog_6_method_5_code
def y_Wi_forget : MethodName := ⟨R_Wi, "forget", "(J)V"⟩
abbrev b_Wi_forget : ByteArray := prog_6_method_6_code
def y_Wi_bitsFrom : MethodName := ⟨R_Wi, "bitsFrom", "(I)J"⟩
abbrev b_Wi_bitsFrom : ByteArray := prog_6_method_7_code
def y_La_add : MethodName := ⟨R_La, "add", "(LGuardedPackets;IJJIIZ[J)I"⟩
abbrev b_La_add : ByteArray := method_3_code
def y_La_hurry : MethodName := ⟨R_La, "hurry", "(LGuardedPackets;IJ)I"⟩
abbrev b_La_hurry : ByteArray := method_4_code
def y_La_life : MethodName := ⟨R_La, "life", "(LGuardedPackets;II[J)I"⟩
abbrev b_La_life : ByteArray := method_5_code
def y_La_feed : MethodName := ⟨R_La, "feed", "(LGuardedPackets;IJ[J)I"⟩
abbrev b_La_feed : ByteArray := method_6_code
def y_La_seal : MethodName := ⟨R_La, "seal", "(LGuardedPackets;II[J)I"⟩
abbrev b_La_seal : ByteArray := method_7_code
def y_La_spoil : MethodName := ⟨R_La, "spoil", "(LGuardedPackets;II[J)I"⟩
abbrev b_La_spoil : ByteArray := method_8_code
def y_La_cut : MethodName := ⟨R_La, "cut", "(LGuardedPackets;I)I"⟩
abbrev b_La_cut : ByteArray := method_9_code
def y_La_keep : MethodName := ⟨R_La, "keep", "(LGuardedPackets;I)I"⟩
abbrev b_La_keep : ByteArray := method_10_code
def y_La_bring : MethodName := ⟨R_La, "bring", "(LGuardedPackets;I[J)I"⟩
abbrev b_La_bring : ByteArray := method_11_code
def y_La_told : MethodName := ⟨R_La, "told", "(LGuardedPackets;II[J)I"⟩
abbrev b_La_told : ByteArray := method_12_code
def y_La_given : MethodName := ⟨R_La, "given", "(LGuardedPackets;II[J)I"⟩
abbrev b_La_given : ByteArray := method_13_code
def y_La_law : MethodName := ⟨R_La, "law", "([I)Z"⟩
abbrev b_La_law : ByteArray := code
end
section
/-- what a call of an instance method needs of the tables -/
def gk_V (y : MethodName) (bytes : ByteArray) (maxL : Nat) (ret : Option FieldType) (n : Nat) : Prop := Cond.instanceMethod y ∈ tb ∧ Cond.selects y.cls y y ∈ tb ∧ Cond.initialized y.cls ∈ tb ∧ Cond.code y bytes maxL ret ∈ tb ∧ (y.cls ≠ "java/lang/invoke/MethodHandle" ∧ y.cls ≠ "java/lang/invoke/VarHandle") ∧ (parseMethodDescriptor y.desc).map (fun d => d.parameters.length) = some n
def gk_S (y : MethodName) (bytes : ByteArray) (maxL : Nat) (ret : Option FieldType) (n : Nat) : Prop := Cond.static y ∈ tb ∧ Cond.initialized y.cls ∈ tb ∧ Cond.code y bytes maxL ret ∈ tb ∧ (y.cls ≠ "java/lang/invoke/MethodHandle" ∧ y.cls ≠ "java/lang/invoke/VarHandle") ∧ (parseMethodDescriptor y.desc).map (fun d => d.parameters.length) = some n
def gk_I (y : MethodName) (bytes : ByteArray) (maxL : Nat) (n : Nat) : Prop := Cond.instanceMethod y ∈ tb ∧ y.name = "<init>" ∧ Cond.initialized y.cls ∈ tb ∧ Cond.code y bytes maxL none ∈ tb ∧ (y.cls ≠ "java/lang/invoke/MethodHandle" ∧ y.cls ≠ "java/lang/invoke/VarHandle") ∧ (parseMethodDescriptor y.desc).map (fun d => d.parameters.length) = some n
theorem k_Gp_init : gk_I y_Gp_init b_Gp_init 2 0 := ⟨tb_1 18 rfl rfl, rfl, tb_1 1 rfl rfl, tb_1 19 rfl rfl, ⟨by decide +kernel, by decide +kernel⟩, by decide +kernel⟩
theorem k_Gp_add : gk_V y_Gp_add b_Gp_add 12 (some .boolean) 6 := ⟨tb_2 125 rfl rfl, tb_2 126 rfl rfl, tb_1 1 rfl rfl, tb_2 127 rfl rfl, ⟨by decide +kernel, by decide +kernel⟩, by decide +kernel⟩
theorem k_Gp_drop : gk_V y_Gp_drop b_Gp_drop 5 (some .boolean) 1 := ⟨tb_1 182 rfl rfl, tb_1 183 rfl rfl, tb_1 1 rfl rfl, tb_1 184 rfl rfl, ⟨by decide +kernel, by decide +kernel⟩, by decide +kernel⟩
theorem k_Gp_hurry : gk_V y_Gp_hurry b_Gp_hurry 5 none 2 := ⟨tb_2 216 rfl rfl, tb_2 217 rfl rfl, tb_1 1 rfl rfl, tb_2 218 rfl rfl, ⟨by decide +kernel, by decide +kernel⟩, by decide +kernel⟩
theorem k_Gp_life : gk_V y_Gp_life b_Gp_life 5 (some .int) 2 := ⟨tb_3 3 rfl rfl, tb_3 4 rfl rfl, tb_1 1 rfl rfl, tb_3 5 rfl rfl, ⟨by decide +kernel, by decide +kernel⟩, by decide +kernel⟩
theorem k_Gp_feed : gk_V y_Gp_feed b_Gp_feed 5 (some .int) 2 := ⟨tb_3 10 rfl rfl, tb_3 11 rfl rfl, tb_1 1 rfl rfl, tb_3 12 rfl rfl, ⟨by decide +kernel, by decide +kernel⟩, by decide +kernel⟩
theorem k_Gp_wipe : gk_V y_Gp_wipe b_Gp_wipe 2 (some .int) 0 := ⟨tb_1 194 rfl rfl, tb_1 195 rfl rfl, tb_1 1 rfl rfl, tb_1 196 rfl rfl, ⟨by decide +kernel, by decide +kernel⟩, by decide +kernel⟩
theorem k_Gp_seal : gk_V y_Gp_seal b_Gp_seal 5 (some .int) 2 := ⟨tb_3 18 rfl rfl, tb_3 19 rfl rfl, tb_1 1 rfl rfl, tb_3 20 rfl rfl, ⟨by decide +kernel, by decide +kernel⟩, by decide +kernel⟩
theorem k_Gp_size : gk_V y_Gp_size b_Gp_size 1 (some .int) 0 := ⟨tb_1 202 rfl rfl, tb_1 203 rfl rfl, tb_1 1 rfl rfl, tb_1 204 rfl rfl, ⟨by decide +kernel, by decide +kernel⟩, by decide +kernel⟩
theorem k_Gp_packet : gk_V y_Gp_packet b_Gp_packet 2 (some .long) 1 := ⟨tb_1 206 rfl rfl, tb_1 207 rfl rfl, tb_1 1 rfl rfl, tb_1 208 rfl rfl, ⟨by decide +kernel, by decide +kernel⟩, by decide +kernel⟩
theorem k_Gp_spoil : gk_V y_Gp_spoil b_Gp_spoil 4 (some .int) 2 := ⟨tb_3 37 rfl rfl, tb_3 38 rfl rfl, tb_1 1 rfl rfl, tb_3 39 rfl rfl, ⟨by decide +kernel, by decide +kernel⟩, by decide +kernel⟩
theorem k_Gp_cut : gk_V y_Gp_cut b_Gp_cut 2 none 1 := ⟨tb_3 60 rfl rfl, tb_3 61 rfl rfl, tb_1 1 rfl rfl, tb_3 62 rfl rfl, ⟨by decide +kernel, by decide +kernel⟩, by decide +kernel⟩
theorem k_Gp_keep : gk_V y_Gp_keep b_Gp_keep 2 none 1 := ⟨tb_3 67 rfl rfl, tb_3 68 rfl rfl, tb_1 1 rfl rfl, tb_3 69 rfl rfl, ⟨by decide +kernel, by decide +kernel⟩, by decide +kernel⟩
theorem k_Gp_bring : gk_V y_Gp_bring b_Gp_bring 2 (some .int) 1 := ⟨tb_3 82 rfl rfl, tb_3 83 rfl rfl, tb_1 1 rfl rfl, tb_3 84 rfl rfl, ⟨by decide +kernel, by decide +kernel⟩, by decide +kernel⟩
theorem k_Gp_open : gk_V y_Gp_open b_Gp_open 6 (some .int) 0 := ⟨tb_1 218 rfl rfl, tb_1 219 rfl rfl, tb_1 1 rfl rfl, tb_1 220 rfl rfl, ⟨by decide +kernel, by decide +kernel⟩, by decide +kernel⟩
theorem k_Gp_got : gk_V y_Gp_got b_Gp_got 1 (some .int) 0 := ⟨tb_2 109 rfl rfl, tb_2 110 rfl rfl, tb_1 1 rfl rfl, tb_2 111 rfl rfl, ⟨by decide +kernel, by decide +kernel⟩, by decide +kernel⟩
theorem k_Gp_data : gk_V y_Gp_data b_Gp_data 2 (some .long) 1 := ⟨tb_2 113 rfl rfl, tb_2 114 rfl rfl, tb_1 1 rfl rfl, tb_2 115 rfl rfl, ⟨by decide +kernel, by decide +kernel⟩, by decide +kernel⟩
theorem k_Gp_told : gk_V y_Gp_told b_Gp_told 4 (some .long) 2 := ⟨tb_3 89 rfl rfl, tb_3 90 rfl rfl, tb_1 1 rfl rfl, tb_3 91 rfl rfl, ⟨by decide +kernel, by decide +kernel⟩, by decide +kernel⟩
theorem k_Gp_given : gk_V y_Gp_given b_Gp_given 4 (some .long) 2 := ⟨tb_3 96 rfl rfl, tb_3 97 rfl rfl, tb_1 1 rfl rfl, tb_3 98 rfl rfl, ⟨by decide +kernel, by decide +kernel⟩, by decide +kernel⟩
theorem k_Gp_name : gk_V y_Gp_name b_Gp_name 2 (some .int) 1 := ⟨tb_2 117 rfl rfl, tb_2 118 rfl rfl, tb_1 1 rfl rfl, tb_2 119 rfl rfl, ⟨by decide +kernel, by decide +kernel⟩, by decide +kernel⟩
theorem k_Gp_isWindow : gk_S y_Gp_isWindow b_Gp_isWindow 1 (some .boolean) 1 := ⟨tb_2 129 rfl rfl, tb_1 1 rfl rfl, tb_2 130 rfl rfl, ⟨by decide +kernel, by decide +kernel⟩, by decide +kernel⟩
theorem k_Gp_isByte : gk_S y_Gp_isByte b_Gp_isByte 1 (some .boolean) 1 := ⟨tb_3 22 rfl rfl, tb_1 1 rfl rfl, tb_3 23 rfl rfl, ⟨by decide +kernel, by decide +kernel⟩, by decide +kernel⟩
theorem k_Gp_isPlace : gk_S y_Gp_isPlace b_Gp_isPlace 1 (some .boolean) 1 := ⟨tb_3 71 rfl rfl, tb_1 1 rfl rfl, tb_3 72 rfl rfl, ⟨by decide +kernel, by decide +kernel⟩, by decide +kernel⟩
theorem k_Gp_placeOf : gk_V y_Gp_placeOf b_Gp_placeOf 3 (some .int) 1 := ⟨tb_1 187 rfl rfl, tb_s (y_Gp_placeOf, 8) (List.mem_append_left _ (List.mem_of_getElem? (i := 0) rfl)) rfl rfl, tb_1 1 rfl rfl, tb_1 188 rfl rfl, ⟨by decide +kernel, by decide +kernel⟩, by decide +kernel⟩
theorem k_Gp_isAt : gk_V y_Gp_isAt b_Gp_isAt 3 (some .boolean) 2 := ⟨tb_1 191 rfl rfl, tb_s (y_Gp_isAt, 8) (List.mem_append_left _ (List.mem_of_getElem? (i := 1) rfl)) rfl rfl, tb_1 1 rfl rfl, tb_1 192 rfl rfl, ⟨by decide +kernel, by decide +kernel⟩, by decide +kernel⟩
theorem k_Gp_known : gk_V y_Gp_known b_Gp_known 3 (some (.object "GuardedPackets$Association")) 1 := ⟨tb_2 221 rfl rfl, tb_s (y_Gp_known, 8) (List.mem_append_left _ (List.mem_of_getElem? (i := 9) rfl)) rfl rfl, tb_1 1 rfl rfl, tb_2 222 rfl rfl, ⟨by decide +kernel, by decide +kernel⟩, by decide +kernel⟩
theorem k_Gp_writePlain : gk_V y_Gp_writePlain b_Gp_writePlain 5 none 2 := ⟨tb_3 26 rfl rfl, tb_s (y_Gp_writePlain, 8) (List.mem_append_left _ (List.mem_of_getElem? (i := 10) rfl)) rfl rfl, tb_1 1 rfl rfl, tb_3 27 rfl rfl, ⟨by decide +kernel, by decide +kernel⟩, by decide +kernel⟩
theorem k_Gp_isSealRight : gk_V y_Gp_isSealRight b_Gp_isSealRight 5 (some .boolean) 2 := ⟨tb_2 14 rfl rfl, tb_s (y_Gp_isSealRight, 8) (List.mem_append_left _ (List.mem_of_getElem? (i := 2) rfl)) rfl rfl, tb_1 1 rfl rfl, tb_2 15 rfl rfl, ⟨by decide +kernel, by decide +kernel⟩, by decide +kernel⟩
theorem k_Gp_unpack : gk_V y_Gp_unpack b_Gp_unpack 4 (some .int) 1 := ⟨tb_2 77 rfl rfl, tb_s (y_Gp_unpack, 8) (List.mem_append_left _ (List.mem_of_getElem? (i := 6) rfl)) rfl rfl, tb_1 1 rfl rfl, tb_2 78 rfl rfl, ⟨by decide +kernel, by decide +kernel⟩, by decide +kernel⟩
theorem k_Gp_isFillRight : gk_V y_Gp_isFillRight b_Gp_isFillRight 4 (some .boolean) 1 := ⟨tb_2 106 rfl rfl, tb_s (y_Gp_isFillRight, 8) (List.mem_append_left _ (List.mem_of_getElem? (i := 7) rfl)) rfl rfl, tb_1 1 rfl rfl, tb_2 107 rfl rfl, ⟨by decide +kernel, by decide +kernel⟩, by decide +kernel⟩
theorem k_Mo_init : gk_I y_Mo_init b_Mo_init 6 0 := ⟨tb_3 107 rfl rfl, rfl, tb_1 7 rfl rfl, tb_3 108 rfl rfl, ⟨by decide +kernel, by decide +kernel⟩, by decide +kernel⟩
theorem k_Mo_thrown : gk_V y_Mo_thrown b_Mo_thrown 1 (some .int) 0 := ⟨tb_3 207 rfl rfl, tb_3 208 rfl rfl, tb_1 7 rfl rfl, tb_3 209 rfl rfl, ⟨by decide +kernel, by decide +kernel⟩, by decide +kernel⟩
theorem k_Mo_times : gk_S y_Mo_times b_Mo_times 4 (some .int) 2 := ⟨tb_3 111 rfl rfl, tb_1 7 rfl rfl, tb_3 112 rfl rfl, ⟨by decide +kernel, by decide +kernel⟩, by decide +kernel⟩
theorem k_Mo_spreadKey : gk_V y_Mo_spreadKey b_Mo_spreadKey 11 none 3 := ⟨tb_3 220 rfl rfl, tb_s (y_Mo_spreadKey, 30) (List.mem_append_left _ (List.mem_of_getElem? (i := 12) rfl)) rfl rfl, tb_1 7 rfl rfl, tb_3 221 rfl rfl, ⟨by decide +kernel, by decide +kernel⟩, by decide +kernel⟩
theorem k_Mo_addWords : gk_V y_Mo_addWords b_Mo_addWords 4 none 2 := ⟨tb_4 35 rfl rfl, tb_s (y_Mo_addWords, 30) (List.mem_append_right _ (List.mem_of_getElem? (i := 2) rfl)) rfl rfl, tb_1 7 rfl rfl, tb_4 36 rfl rfl, ⟨by decide +kernel, by decide +kernel⟩, by decide +kernel⟩
theorem k_Mo_round : gk_V y_Mo_round b_Mo_round 7 none 1 := ⟨tb_4 39 rfl rfl, tb_s (y_Mo_round, 30) (List.mem_append_right _ (List.mem_of_getElem? (i := 3) rfl)) rfl rfl, tb_1 7 rfl rfl, tb_4 40 rfl rfl, ⟨by decide +kernel, by decide +kernel⟩, by decide +kernel⟩
theorem k_Mo_encrypt : gk_V y_Mo_encrypt b_Mo_encrypt 3 none 1 := ⟨tb_4 31 rfl rfl, tb_s (y_Mo_encrypt, 30) (List.mem_append_right _ (List.mem_of_getElem? (i := 1) rfl)) rfl rfl, tb_1 7 rfl rfl, tb_4 32 rfl rfl, ⟨by decide +kernel, by decide +kernel⟩, by decide +kernel⟩
theorem k_Mo_counted : gk_V y_Mo_counted b_Mo_counted 4 none 2 := ⟨tb_4 27 rfl rfl, tb_s (y_Mo_counted, 30) (List.mem_append_right _ (List.mem_of_getElem? (i := 0) rfl)) rfl rfl, tb_1 7 rfl rfl, tb_4 28 rfl rfl, ⟨by decide +kernel, by decide +kernel⟩, by decide +kernel⟩
theorem k_Mo_bit : gk_S y_Mo_bit b_Mo_bit 2 (some .int) 2 := ⟨tb_4 54 rfl rfl, tb_1 7 rfl rfl, tb_4 55 rfl rfl, ⟨by decide +kernel, by decide +kernel⟩, by decide +kernel⟩
theorem k_Mo_multiply : gk_V y_Mo_multiply b_Mo_multiply 4 none 0 := ⟨tb_4 51 rfl rfl, tb_s (y_Mo_multiply, 30) (List.mem_append_right _ (List.mem_of_getElem? (i := 6) rfl)) rfl rfl, tb_1 7 rfl rfl, tb_4 52 rfl rfl, ⟨by decide +kernel, by decide +kernel⟩, by decide +kernel⟩
theorem k_Mo_meet : gk_V y_Mo_meet b_Mo_meet 3 none 2 := ⟨tb_4 47 rfl rfl, tb_s (y_Mo_meet, 30) (List.mem_append_right _ (List.mem_of_getElem? (i := 5) rfl)) rfl rfl, tb_1 7 rfl rfl, tb_4 48 rfl rfl, ⟨by decide +kernel, by decide +kernel⟩, by decide +kernel⟩
theorem k_Mo_byteOf : gk_S y_Mo_byteOf b_Mo_byteOf 3 (some .int) 2 := ⟨tb_4 19 rfl rfl, tb_1 7 rfl rfl, tb_4 20 rfl rfl, ⟨by decide +kernel, by decide +kernel⟩, by decide +kernel⟩
theorem k_Mo_makeSeal : gk_V y_Mo_makeSeal b_Mo_makeSeal 8 none 3 := ⟨tb_4 43 rfl rfl, tb_s (y_Mo_makeSeal, 30) (List.mem_append_right _ (List.mem_of_getElem? (i := 4) rfl)) rfl rfl, tb_1 7 rfl rfl, tb_4 44 rfl rfl, ⟨by decide +kernel, by decide +kernel⟩, by decide +kernel⟩
theorem k_Mo_turnBody : gk_V y_Mo_turnBody b_Mo_turnBody 4 none 2 := ⟨tb_4 23 rfl rfl, tb_s (y_Mo_turnBody, 30) (List.mem_append_left _ (List.mem_of_getElem? (i := 15) rfl)) rfl rfl, tb_1 7 rfl rfl, tb_4 24 rfl rfl, ⟨by decide +kernel, by decide +kernel⟩, by decide +kernel⟩
theorem k_Mo_find : gk_V y_Mo_find b_Mo_find 3 (some .int) 1 := ⟨tb_3 216 rfl rfl, tb_s (y_Mo_find, 30) (List.mem_append_left _ (List.mem_of_getElem? (i := 11) rfl)) rfl rfl, tb_1 7 rfl rfl, tb_3 217 rfl rfl, ⟨by decide +kernel, by decide +kernel⟩, by decide +kernel⟩
theorem k_Mo_greatest : gk_V y_Mo_greatest b_Mo_greatest 2 (some .long) 1 := ⟨tb_3 234 rfl rfl, tb_s (y_Mo_greatest, 30) (List.mem_append_left _ (List.mem_of_getElem? (i := 13) rfl)) rfl rfl, tb_1 7 rfl rfl, tb_3 235 rfl rfl, ⟨by decide +kernel, by decide +kernel⟩, by decide +kernel⟩
theorem k_Mo_add : gk_V y_Mo_add b_Mo_add 10 (some .boolean) 6 := ⟨tb_3 211 rfl rfl, tb_3 212 rfl rfl, tb_1 7 rfl rfl, tb_3 213 rfl rfl, ⟨by decide +kernel, by decide +kernel⟩, by decide +kernel⟩
theorem k_Mo_drop : gk_V y_Mo_drop b_Mo_drop 3 (some .boolean) 1 := ⟨tb_3 225 rfl rfl, tb_3 226 rfl rfl, tb_1 7 rfl rfl, tb_3 227 rfl rfl, ⟨by decide +kernel, by decide +kernel⟩, by decide +kernel⟩
theorem k_Mo_hurry : gk_V y_Mo_hurry b_Mo_hurry 5 none 2 := ⟨tb_3 229 rfl rfl, tb_3 230 rfl rfl, tb_1 7 rfl rfl, tb_3 231 rfl rfl, ⟨by decide +kernel, by decide +kernel⟩, by decide +kernel⟩
theorem k_Mo_life : gk_V y_Mo_life b_Mo_life 5 (some .int) 2 := ⟨tb_3 239 rfl rfl, tb_4 0 rfl rfl, tb_1 7 rfl rfl, tb_4 1 rfl rfl, ⟨by decide +kernel, by decide +kernel⟩, by decide +kernel⟩
theorem k_Mo_feed : gk_V y_Mo_feed b_Mo_feed 5 (some .int) 2 := ⟨tb_4 3 rfl rfl, tb_4 4 rfl rfl, tb_1 7 rfl rfl, tb_4 5 rfl rfl, ⟨by decide +kernel, by decide +kernel⟩, by decide +kernel⟩
theorem k_Mo_wipe : gk_V y_Mo_wipe b_Mo_wipe 2 (some .int) 0 := ⟨tb_4 7 rfl rfl, tb_4 8 rfl rfl, tb_1 7 rfl rfl, tb_4 9 rfl rfl, ⟨by decide +kernel, by decide +kernel⟩, by decide +kernel⟩
theorem k_Mo_put : gk_V y_Mo_put b_Mo_put 2 none 1 := ⟨tb_4 16 rfl rfl, tb_s (y_Mo_put, 30) (List.mem_append_left _ (List.mem_of_getElem? (i := 14) rfl)) rfl rfl, tb_1 7 rfl rfl, tb_4 17 rfl rfl, ⟨by decide +kernel, by decide +kernel⟩, by decide +kernel⟩
theorem k_Mo_seal : gk_V y_Mo_seal b_Mo_seal 7 (some .int) 2 := ⟨tb_4 11 rfl rfl, tb_4 12 rfl rfl, tb_1 7 rfl rfl, tb_4 13 rfl rfl, ⟨by decide +kernel, by decide +kernel⟩, by decide +kernel⟩
theorem k_Mo_size : gk_V y_Mo_size b_Mo_size 1 (some .int) 0 := ⟨tb_4 58 rfl rfl, tb_4 59 rfl rfl, tb_1 7 rfl rfl, tb_4 60 rfl rfl, ⟨by decide +kernel, by decide +kernel⟩, by decide +kernel⟩
theorem k_Mo_eight : gk_S y_Mo_eight b_Mo_eight 8 (some .long) 3 := ⟨tb_4 66 rfl rfl, tb_1 7 rfl rfl, tb_4 67 rfl rfl, ⟨by decide +kernel, by decide +kernel⟩, by decide +kernel⟩
theorem k_Mo_packet : gk_V y_Mo_packet b_Mo_packet 2 (some .long) 1 := ⟨tb_4 62 rfl rfl, tb_4 63 rfl rfl, tb_1 7 rfl rfl, tb_4 64 rfl rfl, ⟨by decide +kernel, by decide +kernel⟩, by decide +kernel⟩
theorem k_Mo_spoil : gk_V y_Mo_spoil b_Mo_spoil 4 (some .int) 2 := ⟨tb_4 69 rfl rfl, tb_4 70 rfl rfl, tb_1 7 rfl rfl, tb_4 71 rfl rfl, ⟨by decide +kernel, by decide +kernel⟩, by decide +kernel⟩
theorem k_Mo_cut : gk_V y_Mo_cut b_Mo_cut 2 none 1 := ⟨tb_4 73 rfl rfl, tb_4 74 rfl rfl, tb_1 7 rfl rfl, tb_4 75 rfl rfl, ⟨by decide +kernel, by decide +kernel⟩, by decide +kernel⟩
theorem k_Mo_keep : gk_V y_Mo_keep b_Mo_keep 3 none 1 := ⟨tb_4 77 rfl rfl, tb_4 78 rfl rfl, tb_1 7 rfl rfl, tb_4 79 rfl rfl, ⟨by decide +kernel, by decide +kernel⟩, by decide +kernel⟩
theorem k_Mo_bring : gk_V y_Mo_bring b_Mo_bring 3 (some .int) 1 := ⟨tb_4 81 rfl rfl, tb_4 82 rfl rfl, tb_1 7 rfl rfl, tb_4 83 rfl rfl, ⟨by decide +kernel, by decide +kernel⟩, by decide +kernel⟩
theorem k_Mo_fourBytes : gk_V y_Mo_fourBytes b_Mo_fourBytes 2 (some .long) 1 := ⟨tb_4 90 rfl rfl, tb_s (y_Mo_fourBytes, 30) (List.mem_append_right _ (List.mem_of_getElem? (i := 7) rfl)) rfl rfl, tb_1 7 rfl rfl, tb_4 91 rfl rfl, ⟨by decide +kernel, by decide +kernel⟩, by decide +kernel⟩
theorem k_Mo_isGiven : gk_V y_Mo_isGiven b_Mo_isGiven 5 (some .boolean) 2 := ⟨tb_4 94 rfl rfl, tb_s (y_Mo_isGiven, 30) (List.mem_append_right _ (List.mem_of_getElem? (i := 8) rfl)) rfl rfl, tb_1 7 rfl rfl, tb_4 95 rfl rfl, ⟨by decide +kernel, by decide +kernel⟩, by decide +kernel⟩
theorem k_Mo_give : gk_V y_Mo_give b_Mo_give 8 none 2 := ⟨tb_4 102 rfl rfl, tb_s (y_Mo_give, 30) (List.mem_append_right _ (List.mem_of_getElem? (i := 10) rfl)) rfl rfl, tb_1 7 rfl rfl, tb_4 103 rfl rfl, ⟨by decide +kernel, by decide +kernel⟩, by decide +kernel⟩
theorem k_Mo_isSealed : gk_V y_Mo_isSealed b_Mo_isSealed 7 (some .boolean) 3 := ⟨tb_4 98 rfl rfl, tb_s (y_Mo_isSealed, 30) (List.mem_append_right _ (List.mem_of_getElem? (i := 9) rfl)) rfl rfl, tb_1 7 rfl rfl, tb_4 99 rfl rfl, ⟨by decide +kernel, by decide +kernel⟩, by decide +kernel⟩
theorem k_Mo_takeBody : gk_V y_Mo_takeBody b_Mo_takeBody 8 (some .int) 2 := ⟨tb_4 106 rfl rfl, tb_s (y_Mo_takeBody, 30) (List.mem_append_right _ (List.mem_of_getElem? (i := 11) rfl)) rfl rfl, tb_1 7 rfl rfl, tb_4 107 rfl rfl, ⟨by decide +kernel, by decide +kernel⟩, by decide +kernel⟩
theorem k_Mo_open : gk_V y_Mo_open b_Mo_open 8 (some .int) 0 := ⟨tb_4 85 rfl rfl, tb_4 86 rfl rfl, tb_1 7 rfl rfl, tb_4 87 rfl rfl, ⟨by decide +kernel, by decide +kernel⟩, by decide +kernel⟩
theorem k_Mo_got : gk_V y_Mo_got b_Mo_got 1 (some .int) 0 := ⟨tb_4 109 rfl rfl, tb_4 110 rfl rfl, tb_1 7 rfl rfl, tb_4 111 rfl rfl, ⟨by decide +kernel, by decide +kernel⟩, by decide +kernel⟩
theorem k_Mo_data : gk_V y_Mo_data b_Mo_data 2 (some .long) 1 := ⟨tb_4 113 rfl rfl, tb_4 114 rfl rfl, tb_1 7 rfl rfl, tb_4 115 rfl rfl, ⟨by decide +kernel, by decide +kernel⟩, by decide +kernel⟩
theorem k_Mo_told : gk_V y_Mo_told b_Mo_told 4 (some .long) 2 := ⟨tb_4 117 rfl rfl, tb_4 118 rfl rfl, tb_1 7 rfl rfl, tb_4 119 rfl rfl, ⟨by decide +kernel, by decide +kernel⟩, by decide +kernel⟩
theorem k_Mo_given : gk_V y_Mo_given b_Mo_given 9 (some .long) 2 := ⟨tb_4 121 rfl rfl, tb_4 122 rfl rfl, tb_1 7 rfl rfl, tb_4 123 rfl rfl, ⟨by decide +kernel, by decide +kernel⟩, by decide +kernel⟩
theorem k_Mo_name : gk_V y_Mo_name b_Mo_name 5 (some .int) 1 := ⟨tb_4 125 rfl rfl, tb_4 126 rfl rfl, tb_1 7 rfl rfl, tb_4 127 rfl rfl, ⟨by decide +kernel, by decide +kernel⟩, by decide +kernel⟩
theorem k_As_init : gk_I y_As_init b_As_init 1 0 := ⟨tb_1 65 rfl rfl, rfl, tb_1 4 rfl rfl, tb_1 66 rfl rfl, ⟨by decide +kernel, by decide +kernel⟩, by decide +kernel⟩
theorem k_As_begin : gk_V y_As_begin b_As_begin 5 none 4 := ⟨tb_2 195 rfl rfl, tb_2 196 rfl rfl, tb_1 4 rfl rfl, tb_2 197 rfl rfl, ⟨by decide +kernel, by decide +kernel⟩, by decide +kernel⟩
theorem k_As_takeKey : gk_V y_As_takeKey b_As_takeKey 5 none 2 := ⟨tb_2 204 rfl rfl, tb_2 205 rfl rfl, tb_1 4 rfl rfl, tb_2 206 rfl rfl, ⟨by decide +kernel, by decide +kernel⟩, by decide +kernel⟩
theorem k_As_greatest : gk_V y_As_greatest b_As_greatest 1 (some .long) 0 := ⟨tb_1 239 rfl rfl, tb_2 0 rfl rfl, tb_1 4 rfl rfl, tb_2 1 rfl rfl, ⟨by decide +kernel, by decide +kernel⟩, by decide +kernel⟩
theorem k_As_fullNumber : gk_V y_As_fullNumber b_As_fullNumber 5 (some .long) 1 := ⟨tb_1 230 rfl rfl, tb_1 231 rfl rfl, tb_1 4 rfl rfl, tb_1 232 rfl rfl, ⟨by decide +kernel, by decide +kernel⟩, by decide +kernel⟩
theorem k_As_mayGiveOut : gk_V y_As_mayGiveOut b_As_mayGiveOut 3 (some .boolean) 1 := ⟨tb_1 235 rfl rfl, tb_1 236 rfl rfl, tb_1 4 rfl rfl, tb_1 237 rfl rfl, ⟨by decide +kernel, by decide +kernel⟩, by decide +kernel⟩
theorem k_As_giveOut : gk_V y_As_giveOut b_As_giveOut 3 none 1 := ⟨tb_2 61 rfl rfl, tb_2 62 rfl rfl, tb_1 4 rfl rfl, tb_2 63 rfl rfl, ⟨by decide +kernel, by decide +kernel⟩, by decide +kernel⟩
theorem k_As_mask : gk_V y_As_mask b_As_mask 11 none 3 := ⟨tb_2 92 rfl rfl, tb_2 93 rfl rfl, tb_1 4 rfl rfl, tb_2 94 rfl rfl, ⟨by decide +kernel, by decide +kernel⟩, by decide +kernel⟩
theorem k_As_maskCheck : gk_V y_As_maskCheck b_As_maskCheck 4 none 2 := ⟨tb_2 29 rfl rfl, tb_2 30 rfl rfl, tb_1 4 rfl rfl, tb_2 31 rfl rfl, ⟨by decide +kernel, by decide +kernel⟩, by decide +kernel⟩
theorem k_As_encryptJ : gk_V y_As_encryptJ b_As_encryptJ 4 none 2 := ⟨tb_2 34 rfl rfl, tb_s (y_As_encryptJ, 12) (List.mem_append_left _ (List.mem_of_getElem? (i := 4) rfl)) rfl rfl, tb_1 4 rfl rfl, tb_2 35 rfl rfl, ⟨by decide +kernel, by decide +kernel⟩, by decide +kernel⟩
theorem k_Ch_init : gk_I y_Ch_init b_Ch_init 1 0 := ⟨tb_1 49 rfl rfl, rfl, tb_1 3 rfl rfl, tb_1 50 rfl rfl, ⟨by decide +kernel, by decide +kernel⟩, by decide +kernel⟩
theorem k_Ch_ofBody : gk_V y_Ch_ofBody b_Ch_ofBody 10 none 4 := ⟨tb_2 17 rfl rfl, tb_2 18 rfl rfl, tb_1 3 rfl rfl, tb_2 19 rfl rfl, ⟨by decide +kernel, by decide +kernel⟩, by decide +kernel⟩
theorem k_Ch_take : gk_V y_Ch_take b_Ch_take 19 none 3 := ⟨tb_2 22 rfl rfl, tb_s (y_Ch_take, 2) (List.mem_append_left _ (List.mem_of_getElem? (i := 3) rfl)) rfl rfl, tb_1 3 rfl rfl, tb_2 23 rfl rfl, ⟨by decide +kernel, by decide +kernel⟩, by decide +kernel⟩
theorem k_Ci_init : gk_I y_Ci_init b_Ci_init 1 0 := ⟨tb_1 71 rfl rfl, rfl, tb_1 5 rfl rfl, tb_1 72 rfl rfl, ⟨by decide +kernel, by decide +kernel⟩, by decide +kernel⟩
theorem k_Ci_takeKey : gk_V y_Ci_takeKey b_Ci_takeKey 9 none 2 := ⟨tb_2 208 rfl rfl, tb_2 209 rfl rfl, tb_1 5 rfl rfl, tb_2 210 rfl rfl, ⟨by decide +kernel, by decide +kernel⟩, by decide +kernel⟩
theorem k_Ci_encrypt : gk_V y_Ci_encrypt b_Ci_encrypt 15 none 4 := ⟨tb_2 37 rfl rfl, tb_2 38 rfl rfl, tb_1 5 rfl rfl, tb_2 39 rfl rfl, ⟨by decide +kernel, by decide +kernel⟩, by decide +kernel⟩
theorem k_Ci_unsigned : gk_S y_Ci_unsigned b_Ci_unsigned 1 (some .long) 1 := ⟨tb_2 57 rfl rfl, tb_1 5 rfl rfl, tb_2 58 rfl rfl, ⟨by decide +kernel, by decide +kernel⟩, by decide +kernel⟩
theorem k_Ci_subAcross : gk_S y_Ci_subAcross b_Ci_subAcross 4 (some .int) 4 := ⟨tb_2 41 rfl rfl, tb_1 5 rfl rfl, tb_2 42 rfl rfl, ⟨by decide +kernel, by decide +kernel⟩, by decide +kernel⟩
theorem k_Ci_mixed : gk_S y_Ci_mixed b_Ci_mixed 2 (some .int) 1 := ⟨tb_2 46 rfl rfl, tb_1 5 rfl rfl, tb_2 47 rfl rfl, ⟨by decide +kernel, by decide +kernel⟩, by decide +kernel⟩
theorem k_Ci_doubled : gk_S y_Ci_doubled b_Ci_doubled 1 (some .int) 1 := ⟨tb_2 52 rfl rfl, tb_1 5 rfl rfl, tb_2 53 rfl rfl, ⟨by decide +kernel, by decide +kernel⟩, by decide +kernel⟩
theorem k_Ci_turn : gk_S y_Ci_turn b_Ci_turn 2 (some .int) 2 := ⟨tb_2 49 rfl rfl, tb_1 5 rfl rfl, tb_2 50 rfl rfl, ⟨by decide +kernel, by decide +kernel⟩, by decide +kernel⟩
theorem k_Ro_init : gk_I y_Ro_init b_Ro_init 2 1 := ⟨tb_1 28 rfl rfl, rfl, tb_1 2 rfl rfl, tb_1 29 rfl rfl, ⟨by decide +kernel, by decide +kernel⟩, by decide +kernel⟩
theorem k_Ro_clear : gk_V y_Ro_clear b_Ro_clear 1 none 0 := ⟨tb_2 80 rfl rfl, tb_2 81 rfl rfl, tb_1 2 rfl rfl, tb_2 82 rfl rfl, ⟨by decide +kernel, by decide +kernel⟩, by decide +kernel⟩
theorem k_Ro_shorten : gk_V y_Ro_shorten b_Ro_shorten 2 none 1 := ⟨tb_1 198 rfl rfl, tb_1 199 rfl rfl, tb_1 2 rfl rfl, tb_1 200 rfl rfl, ⟨by decide +kernel, by decide +kernel⟩, by decide +kernel⟩
theorem k_Ro_append : gk_V y_Ro_append b_Ro_append 2 none 1 := ⟨tb_2 88 rfl rfl, tb_2 89 rfl rfl, tb_1 2 rfl rfl, tb_2 90 rfl rfl, ⟨by decide +kernel, by decide +kernel⟩, by decide +kernel⟩
theorem k_Ro_appendNumber : gk_V y_Ro_appendNumber b_Ro_appendNumber 5 none 2 := ⟨tb_3 29 rfl rfl, tb_3 30 rfl rfl, tb_1 2 rfl rfl, tb_3 31 rfl rfl, ⟨by decide +kernel, by decide +kernel⟩, by decide +kernel⟩
theorem k_Ro_appendRow : gk_V y_Ro_appendRow b_Ro_appendRow 5 none 3 := ⟨tb_2 84 rfl rfl, tb_2 85 rfl rfl, tb_1 2 rfl rfl, tb_2 86 rfl rfl, ⟨by decide +kernel, by decide +kernel⟩, by decide +kernel⟩
theorem k_Ro_become : gk_V y_Ro_become b_Ro_become 2 none 1 := ⟨tb_3 74 rfl rfl, tb_3 75 rfl rfl, tb_1 2 rfl rfl, tb_3 76 rfl rfl, ⟨by decide +kernel, by decide +kernel⟩, by decide +kernel⟩
theorem k_Ro_at : gk_V y_Ro_at b_Ro_at 3 (some .int) 1 := ⟨tb_1 214 rfl rfl, tb_1 215 rfl rfl, tb_1 2 rfl rfl, tb_1 216 rfl rfl, ⟨by decide +kernel, by decide +kernel⟩, by decide +kernel⟩
theorem k_Ro_put : gk_V y_Ro_put b_Ro_put 3 none 2 := ⟨tb_2 100 rfl rfl, tb_2 101 rfl rfl, tb_1 2 rfl rfl, tb_2 102 rfl rfl, ⟨by decide +kernel, by decide +kernel⟩, by decide +kernel⟩
theorem k_Ro_number : gk_V y_Ro_number b_Ro_number 3 (some .long) 2 := ⟨tb_1 222 rfl rfl, tb_1 223 rfl rfl, tb_1 2 rfl rfl, tb_1 224 rfl rfl, ⟨by decide +kernel, by decide +kernel⟩, by decide +kernel⟩
theorem k_Ro_numberUpTo : gk_V y_Ro_numberUpTo b_Ro_numberUpTo 7 (some .long) 3 := ⟨tb_1 226 rfl rfl, tb_1 227 rfl rfl, tb_1 2 rfl rfl, tb_1 228 rfl rfl, ⟨by decide +kernel, by decide +kernel⟩, by decide +kernel⟩
theorem k_Ro_eightFrom : gk_V y_Ro_eightFrom b_Ro_eightFrom 5 (some .long) 1 := ⟨tb_1 210 rfl rfl, tb_1 211 rfl rfl, tb_1 2 rfl rfl, tb_1 212 rfl rfl, ⟨by decide +kernel, by decide +kernel⟩, by decide +kernel⟩
theorem k_Wi_init : gk_I y_Wi_init b_Wi_init 1 0 := ⟨tb_1 90 rfl rfl, rfl, tb_1 6 rfl rfl, tb_1 91 rfl rfl, ⟨by decide +kernel, by decide +kernel⟩, by decide +kernel⟩
theorem k_Wi_begin : gk_V y_Wi_begin b_Wi_begin 3 none 1 := ⟨tb_2 200 rfl rfl, tb_2 201 rfl rfl, tb_1 6 rfl rfl, tb_2 202 rfl rfl, ⟨by decide +kernel, by decide +kernel⟩, by decide +kernel⟩
theorem k_Wi_isAbove : gk_V y_Wi_isAbove b_Wi_isAbove 3 (some .boolean) 1 := ⟨tb_2 4 rfl rfl, tb_2 5 rfl rfl, tb_1 6 rfl rfl, tb_2 6 rfl rfl, ⟨by decide +kernel, by decide +kernel⟩, by decide +kernel⟩
theorem k_Wi_has : gk_V y_Wi_has b_Wi_has 4 (some .boolean) 1 := ⟨tb_2 8 rfl rfl, tb_2 9 rfl rfl, tb_1 6 rfl rfl, tb_2 10 rfl rfl, ⟨by decide +kernel, by decide +kernel⟩, by decide +kernel⟩
theorem k_Wi_take : gk_V y_Wi_take b_Wi_take 4 none 1 := ⟨tb_2 65 rfl rfl, tb_2 66 rfl rfl, tb_1 6 rfl rfl, tb_2 67 rfl rfl, ⟨by decide +kernel, by decide +kernel⟩, by decide +kernel⟩
theorem k_Wi_forget : gk_V y_Wi_forget b_Wi_forget 6 none 1 := ⟨tb_2 70 rfl rfl, tb_s (y_Wi_forget, 3) (List.mem_append_left _ (List.mem_of_getElem? (i := 5) rfl)) rfl rfl, tb_1 6 rfl rfl, tb_2 71 rfl rfl, ⟨by decide +kernel, by decide +kernel⟩, by decide +kernel⟩
theorem k_Wi_bitsFrom : gk_V y_Wi_bitsFrom b_Wi_bitsFrom 5 (some .long) 1 := ⟨tb_3 100 rfl rfl, tb_3 101 rfl rfl, tb_1 6 rfl rfl, tb_3 102 rfl rfl, ⟨by decide +kernel, by decide +kernel⟩, by decide +kernel⟩
theorem q_La_8 : Cond.classLink R_La 8 "GuardedPackets" ∈ tb := tb_1 15 rfl rfl
theorem m_La_55 : Cond.methodLink R_La 55 y_Gp_init ∈ tb := tb_1 17 rfl rfl
theorem m_Gp_1 : Cond.methodLink R_Gp 1 objectInit ∈ tb := tb_1 20 rfl rfl
theorem q_Gp_9 : Cond.classLink R_Gp 9 "GuardedPackets$Association" ∈ tb := tb_1 23 rfl rfl
theorem q_Gp_19 : Cond.classLink R_Gp 19 "GuardedPackets$Row" ∈ tb := tb_1 25 rfl rfl
theorem m_Gp_21 : Cond.methodLink R_Gp 21 y_Ro_init ∈ tb := tb_1 27 rfl rfl
theorem m_Ro_1 : Cond.methodLink R_Ro 1 objectInit ∈ tb := tb_1 30 rfl rfl
theorem f_Ro_17 : Cond.fieldLink R_Ro 17 "GuardedPackets$Row" "bytes" "[B" ∈ tb := tb_1 31 rfl rfl
theorem f_Ro_7 : Cond.fieldLink R_Ro 7 "GuardedPackets$Row" "length" "I" ∈ tb := tb_1 32 rfl rfl
theorem f_Gp_87 : Cond.fieldLink R_Gp 87 "GuardedPackets$Row" "length" "I" ∈ tb := tb_1 33 rfl rfl
theorem f_As_102 : Cond.fieldLink R_As 102 "GuardedPackets$Row" "length" "I" ∈ tb := tb_1 34 rfl rfl
theorem f_Ro_13 : Cond.fieldLink R_Ro 13 "GuardedPackets$Row" "isThere" "Z" ∈ tb := tb_1 35 rfl rfl
theorem f_Gp_147 : Cond.fieldLink R_Gp 147 "GuardedPackets$Row" "isThere" "Z" ∈ tb := tb_1 36 rfl rfl
theorem q_Gp_41 : Cond.classLink R_Gp 41 "GuardedPackets$Check" ∈ tb := tb_1 46 rfl rfl
theorem m_Ch_3 : Cond.methodLink R_Ch 3 objectInit ∈ tb := tb_1 51 rfl rfl
theorem f_Ch_9 : Cond.fieldLink R_Ch 9 "GuardedPackets$Check" "high" "J" ∈ tb := tb_1 52 rfl rfl
theorem f_Gp_115 : Cond.fieldLink R_Gp 115 "GuardedPackets$Check" "high" "J" ∈ tb := tb_1 53 rfl rfl
theorem f_As_125 : Cond.fieldLink R_As 125 "GuardedPackets$Check" "high" "J" ∈ tb := tb_1 54 rfl rfl
theorem f_Ch_15 : Cond.fieldLink R_Ch 15 "GuardedPackets$Check" "low" "J" ∈ tb := tb_1 55 rfl rfl
theorem f_Gp_122 : Cond.fieldLink R_Gp 122 "GuardedPackets$Check" "low" "J" ∈ tb := tb_1 56 rfl rfl
theorem f_As_128 : Cond.fieldLink R_As 128 "GuardedPackets$Check" "low" "J" ∈ tb := tb_1 57 rfl rfl
theorem m_As_1 : Cond.methodLink R_As 1 objectInit ∈ tb := tb_1 67 rfl rfl
theorem q_As_7 : Cond.classLink R_As 7 "GuardedPackets$Cipher" ∈ tb := tb_1 68 rfl rfl
theorem m_Ci_1 : Cond.methodLink R_Ci 1 objectInit ∈ tb := tb_1 73 rfl rfl
theorem f_Ci_9 : Cond.fieldLink R_Ci 9 "GuardedPackets$Cipher" "words" "[I" ∈ tb := tb_1 74 rfl rfl
theorem f_Ci_13 : Cond.fieldLink R_Ci 13 "GuardedPackets$Cipher" "high" "J" ∈ tb := tb_1 75 rfl rfl
theorem f_As_69 : Cond.fieldLink R_As 69 "GuardedPackets$Cipher" "high" "J" ∈ tb := tb_1 76 rfl rfl
theorem f_Ci_17 : Cond.fieldLink R_Ci 17 "GuardedPackets$Cipher" "low" "J" ∈ tb := tb_1 77 rfl rfl
theorem f_As_72 : Cond.fieldLink R_As 72 "GuardedPackets$Cipher" "low" "J" ∈ tb := tb_1 78 rfl rfl
theorem q_As_16 : Cond.classLink R_As 16 "GuardedPackets$Window" ∈ tb := tb_1 87 rfl rfl
theorem m_Wi_3 : Cond.methodLink R_Wi 3 objectInit ∈ tb := tb_1 92 rfl rfl
theorem f_Wi_9 : Cond.fieldLink R_Wi 9 "GuardedPackets$Window" "bits" "[I" ∈ tb := tb_1 93 rfl rfl
theorem f_Wi_15 : Cond.fieldLink R_Wi 15 "GuardedPackets$Window" "width" "I" ∈ tb := tb_1 94 rfl rfl
theorem f_As_84 : Cond.fieldLink R_As 84 "GuardedPackets$Window" "width" "I" ∈ tb := tb_1 95 rfl rfl
theorem f_Gp_193 : Cond.fieldLink R_Gp 193 "GuardedPackets$Window" "width" "I" ∈ tb := tb_1 96 rfl rfl
theorem f_Wi_19 : Cond.fieldLink R_Wi 19 "GuardedPackets$Window" "top" "J" ∈ tb := tb_1 97 rfl rfl
theorem f_As_81 : Cond.fieldLink R_As 81 "GuardedPackets$Window" "top" "J" ∈ tb := tb_1 98 rfl rfl
theorem f_Gp_185 : Cond.fieldLink R_Gp 185 "GuardedPackets$Window" "top" "J" ∈ tb := tb_1 99 rfl rfl
theorem f_As_10 : Cond.fieldLink R_As 10 "GuardedPackets$Association" "cipher" "LGuardedPackets$Cipher;" ∈ tb := tb_1 107 rfl rfl
theorem f_As_19 : Cond.fieldLink R_As 19 "GuardedPackets$Association" "window" "LGuardedPackets$Window;" ∈ tb := tb_1 108 rfl rfl
theorem f_Gp_181 : Cond.fieldLink R_Gp 181 "GuardedPackets$Association" "window" "LGuardedPackets$Window;" ∈ tb := tb_1 109 rfl rfl
theorem f_As_23 : Cond.fieldLink R_As 23 "GuardedPackets$Association" "title" "I" ∈ tb := tb_1 110 rfl rfl
theorem f_Ch_18 : Cond.fieldLink R_Ch 18 "GuardedPackets$Association" "title" "I" ∈ tb := tb_1 111 rfl rfl
theorem f_Gp_202 : Cond.fieldLink R_Gp 202 "GuardedPackets$Association" "title" "I" ∈ tb := tb_1 112 rfl rfl
theorem f_As_27 : Cond.fieldLink R_As 27 "GuardedPackets$Association" "salt" "I" ∈ tb := tb_1 113 rfl rfl
theorem f_As_30 : Cond.fieldLink R_As 30 "GuardedPackets$Association" "extended" "Z" ∈ tb := tb_1 114 rfl rfl
theorem f_Ch_24 : Cond.fieldLink R_Ch 24 "GuardedPackets$Association" "extended" "Z" ∈ tb := tb_1 115 rfl rfl
theorem f_Gp_196 : Cond.fieldLink R_Gp 196 "GuardedPackets$Association" "extended" "Z" ∈ tb := tb_1 116 rfl rfl
theorem f_As_34 : Cond.fieldLink R_As 34 "GuardedPackets$Association" "factorHigh" "J" ∈ tb := tb_1 117 rfl rfl
theorem f_Ch_42 : Cond.fieldLink R_Ch 42 "GuardedPackets$Association" "factorHigh" "J" ∈ tb := tb_1 118 rfl rfl
theorem f_As_38 : Cond.fieldLink R_As 38 "GuardedPackets$Association" "factorLow" "J" ∈ tb := tb_1 119 rfl rfl
theorem f_Ch_45 : Cond.fieldLink R_Ch 45 "GuardedPackets$Association" "factorLow" "J" ∈ tb := tb_1 120 rfl rfl
theorem f_As_41 : Cond.fieldLink R_As 41 "GuardedPackets$Association" "last" "J" ∈ tb := tb_1 121 rfl rfl
theorem f_Gp_76 : Cond.fieldLink R_Gp 76 "GuardedPackets$Association" "last" "J" ∈ tb := tb_1 122 rfl rfl
theorem f_As_44 : Cond.fieldLink R_As 44 "GuardedPackets$Association" "lifeLeft" "I" ∈ tb := tb_1 123 rfl rfl
theorem f_Gp_84 : Cond.fieldLink R_Gp 84 "GuardedPackets$Association" "lifeLeft" "I" ∈ tb := tb_1 124 rfl rfl
theorem f_As_47 : Cond.fieldLink R_As 47 "GuardedPackets$Association" "givenTimes" "J" ∈ tb := tb_1 125 rfl rfl
theorem f_Gp_190 : Cond.fieldLink R_Gp 190 "GuardedPackets$Association" "givenTimes" "J" ∈ tb := tb_1 126 rfl rfl
theorem f_As_50 : Cond.fieldLink R_As 50 "GuardedPackets$Association" "staleTimes" "J" ∈ tb := tb_1 127 rfl rfl
theorem f_Gp_163 : Cond.fieldLink R_Gp 163 "GuardedPackets$Association" "staleTimes" "J" ∈ tb := tb_1 128 rfl rfl
theorem f_As_53 : Cond.fieldLink R_As 53 "GuardedPackets$Association" "wrongTimes" "J" ∈ tb := tb_1 129 rfl rfl
theorem f_Gp_170 : Cond.fieldLink R_Gp 170 "GuardedPackets$Association" "wrongTimes" "J" ∈ tb := tb_1 130 rfl rfl
theorem f_Gp_11 : Cond.fieldLink R_Gp 11 "GuardedPackets" "associations" "[LGuardedPackets$Association;" ∈ tb := tb_1 156 rfl rfl
theorem f_Gp_15 : Cond.fieldLink R_Gp 15 "GuardedPackets" "count" "I" ∈ tb := tb_1 157 rfl rfl
theorem f_Gp_24 : Cond.fieldLink R_Gp 24 "GuardedPackets" "fed" "LGuardedPackets$Row;" ∈ tb := tb_1 158 rfl rfl
theorem f_Gp_28 : Cond.fieldLink R_Gp 28 "GuardedPackets" "sent" "LGuardedPackets$Row;" ∈ tb := tb_1 159 rfl rfl
theorem f_Gp_31 : Cond.fieldLink R_Gp 31 "GuardedPackets" "places" "[LGuardedPackets$Row;" ∈ tb := tb_1 160 rfl rfl
theorem f_Gp_35 : Cond.fieldLink R_Gp 35 "GuardedPackets" "plain" "LGuardedPackets$Row;" ∈ tb := tb_1 161 rfl rfl
theorem f_Gp_38 : Cond.fieldLink R_Gp 38 "GuardedPackets" "gained" "LGuardedPackets$Row;" ∈ tb := tb_1 162 rfl rfl
theorem f_Gp_44 : Cond.fieldLink R_Gp 44 "GuardedPackets" "check" "LGuardedPackets$Check;" ∈ tb := tb_1 163 rfl rfl
theorem m_La_71 : Cond.methodLink R_La 71 y_Gp_drop ∈ tb := tb_1 181 rfl rfl
theorem m_Gp_56 : Cond.methodLink R_Gp 56 y_Gp_placeOf ∈ tb := tb_1 185 rfl rfl
theorem m_Gp_60 : Cond.methodLink R_Gp 60 y_Gp_isAt ∈ tb := tb_1 189 rfl rfl
theorem m_La_88 : Cond.methodLink R_La 88 y_Gp_wipe ∈ tb := tb_1 193 rfl rfl
theorem m_Gp_93 : Cond.methodLink R_Gp 93 y_Ro_shorten ∈ tb := tb_1 197 rfl rfl
theorem m_La_95 : Cond.methodLink R_La 95 y_Gp_size ∈ tb := tb_1 201 rfl rfl
theorem m_La_99 : Cond.methodLink R_La 99 y_Gp_packet ∈ tb := tb_1 205 rfl rfl
theorem m_Gp_125 : Cond.methodLink R_Gp 125 y_Ro_eightFrom ∈ tb := tb_1 209 rfl rfl
theorem m_Ro_25 : Cond.methodLink R_Ro 25 y_Ro_at ∈ tb := tb_1 213 rfl rfl
theorem m_La_118 : Cond.methodLink R_La 118 y_Gp_open ∈ tb := tb_1 217 rfl rfl
theorem m_Gp_151 : Cond.methodLink R_Gp 151 y_Ro_number ∈ tb := tb_1 221 rfl rfl
theorem m_Ro_33 : Cond.methodLink R_Ro 33 y_Ro_numberUpTo ∈ tb := tb_1 225 rfl rfl
theorem m_Gp_155 : Cond.methodLink R_Gp 155 y_As_fullNumber ∈ tb := tb_1 229 rfl rfl
theorem o_As_79 : Cond.constantLong R_As 79 (4294967295) ∈ tb := tb_1 233 rfl rfl
theorem m_Gp_159 : Cond.methodLink R_Gp 159 y_As_mayGiveOut ∈ tb := tb_1 234 rfl rfl
theorem m_As_87 : Cond.methodLink R_As 87 y_As_greatest ∈ tb := tb_1 238 rfl rfl
theorem o_As_77 : Cond.constantLong R_As 77 (9223372036854775807) ∈ tb := tb_2 2 rfl rfl
theorem m_As_91 : Cond.methodLink R_As 91 y_Wi_isAbove ∈ tb := tb_2 3 rfl rfl
theorem m_As_95 : Cond.methodLink R_As 95 y_Wi_has ∈ tb := tb_2 7 rfl rfl
theorem m_Wi_23 : Cond.methodLink R_Wi 23 y_Wi_isAbove ∈ tb := tb_2 11 rfl rfl
theorem m_Gp_166 : Cond.methodLink R_Gp 166 y_Gp_isSealRight ∈ tb := tb_2 12 rfl rfl
theorem m_Gp_107 : Cond.methodLink R_Gp 107 y_Ch_ofBody ∈ tb := tb_2 16 rfl rfl
theorem m_Ch_28 : Cond.methodLink R_Ch 28 y_Ch_take ∈ tb := tb_2 20 rfl rfl
theorem o_Ch_48 : Cond.constantLong R_Ch 48 (-2233785415175766016) ∈ tb := tb_2 24 rfl rfl
theorem o_Ch_32 : Cond.constantLong R_Ch 32 (4294967295) ∈ tb := tb_2 25 rfl rfl
theorem m_Ch_34 : Cond.methodLink R_Ch 34 y_Ro_numberUpTo ∈ tb := tb_2 26 rfl rfl
theorem o_Ch_40 : Cond.constantLong R_Ch 40 (8) ∈ tb := tb_2 27 rfl rfl
theorem m_Gp_111 : Cond.methodLink R_Gp 111 y_As_maskCheck ∈ tb := tb_2 28 rfl rfl
theorem m_As_107 : Cond.methodLink R_As 107 y_As_encryptJ ∈ tb := tb_2 32 rfl rfl
theorem m_As_65 : Cond.methodLink R_As 65 y_Ci_encrypt ∈ tb := tb_2 36 rfl rfl
theorem m_Ci_24 : Cond.methodLink R_Ci 24 y_Ci_subAcross ∈ tb := tb_2 40 rfl rfl
theorem f_Ci_41 : Cond.fieldLink R_Ci 41 "GuardedPackets$Cipher" "SUB" "[I" ∈ tb := tb_2 43 rfl rfl
theorem m_Ci_32 : Cond.methodLink R_Ci 32 y_Ci_mixed ∈ tb := tb_2 45 rfl rfl
theorem m_Ci_20 : Cond.methodLink R_Ci 20 y_Ci_turn ∈ tb := tb_2 48 rfl rfl
theorem m_Ci_28 : Cond.methodLink R_Ci 28 y_Ci_doubled ∈ tb := tb_2 51 rfl rfl
theorem o_Ci_44 : Cond.constant R_Ci 44 (2139062143) ∈ tb := tb_2 54 rfl rfl
theorem o_Ci_45 : Cond.constant R_Ci 45 (16843009) ∈ tb := tb_2 55 rfl rfl
theorem m_Ci_35 : Cond.methodLink R_Ci 35 y_Ci_unsigned ∈ tb := tb_2 56 rfl rfl
theorem o_Ci_39 : Cond.constantLong R_Ci 39 (4294967295) ∈ tb := tb_2 59 rfl rfl
theorem m_Gp_173 : Cond.methodLink R_Gp 173 y_As_giveOut ∈ tb := tb_2 60 rfl rfl
theorem m_As_98 : Cond.methodLink R_As 98 y_Wi_take ∈ tb := tb_2 64 rfl rfl
theorem m_Wi_27 : Cond.methodLink R_Wi 27 y_Wi_forget ∈ tb := tb_2 68 rfl rfl
theorem m_Wi_31 : Cond.methodLink R_Wi 31 ⟨"java/lang/Math", "min", "(JJ)J"⟩ ∈ tb := tb_2 72 rfl rfl
theorem m_Gp_177 : Cond.methodLink R_Gp 177 y_Gp_unpack ∈ tb := tb_2 75 rfl rfl
theorem m_Gp_208 : Cond.methodLink R_Gp 208 y_Ro_clear ∈ tb := tb_2 79 rfl rfl
theorem m_Gp_211 : Cond.methodLink R_Gp 211 y_Ro_appendRow ∈ tb := tb_2 83 rfl rfl
theorem m_Ro_21 : Cond.methodLink R_Ro 21 y_Ro_append ∈ tb := tb_2 87 rfl rfl
theorem m_Gp_103 : Cond.methodLink R_Gp 103 y_As_mask ∈ tb := tb_2 91 rfl rfl
theorem m_As_111 : Cond.methodLink R_As 111 ⟨"java/lang/Math", "min", "(II)I"⟩ ∈ tb := tb_2 95 rfl rfl
theorem m_As_117 : Cond.methodLink R_As 117 y_Ro_at ∈ tb := tb_2 98 rfl rfl
theorem m_As_121 : Cond.methodLink R_As 121 y_Ro_put ∈ tb := tb_2 99 rfl rfl
theorem m_Gp_132 : Cond.methodLink R_Gp 132 y_Ro_at ∈ tb := tb_2 103 rfl rfl
theorem m_Gp_215 : Cond.methodLink R_Gp 215 y_Gp_isFillRight ∈ tb := tb_2 104 rfl rfl
theorem m_La_122 : Cond.methodLink R_La 122 y_Gp_got ∈ tb := tb_2 108 rfl rfl
theorem m_La_126 : Cond.methodLink R_La 126 y_Gp_data ∈ tb := tb_2 112 rfl rfl
theorem m_La_136 : Cond.methodLink R_La 136 y_Gp_name ∈ tb := tb_2 116 rfl rfl
theorem m_La_61 : Cond.methodLink R_La 61 y_La_add ∈ tb := tb_2 120 rfl rfl
theorem q_La_13 : Cond.classLink R_La 13 "java/lang/IllegalArgumentException" ∈ tb := tb_2 123 rfl rfl
theorem m_La_7 : Cond.methodLink R_La 7 y_Gp_add ∈ tb := tb_2 124 rfl rfl
theorem m_Gp_49 : Cond.methodLink R_Gp 49 y_Gp_isWindow ∈ tb := tb_2 128 rfl rfl
theorem q_Gp_53 : Cond.classLink R_Gp 53 "java/lang/IllegalArgumentException" ∈ tb := tb_2 131 rfl rfl
theorem m_Gp_55 : Cond.methodLink R_Gp 55 ⟨"java/lang/IllegalArgumentException", "<init>", "()V"⟩ ∈ tb := tb_2 172 rfl rfl
theorem m_Gp_64 : Cond.methodLink R_Gp 64 y_As_begin ∈ tb := tb_2 194 rfl rfl
theorem o_As_56 : Cond.constant R_As 56 (1000000000) ∈ tb := tb_2 198 rfl rfl
theorem m_As_57 : Cond.methodLink R_As 57 y_Wi_begin ∈ tb := tb_2 199 rfl rfl
theorem m_Gp_68 : Cond.methodLink R_Gp 68 y_As_takeKey ∈ tb := tb_2 203 rfl rfl
theorem m_As_61 : Cond.methodLink R_As 61 y_Ci_takeKey ∈ tb := tb_2 207 rfl rfl
theorem m_La_76 : Cond.methodLink R_La 76 y_La_hurry ∈ tb := tb_2 211 rfl rfl
theorem q_La_19 : Cond.classLink R_La 19 "java/lang/IllegalStateException" ∈ tb := tb_2 214 rfl rfl
theorem m_La_15 : Cond.methodLink R_La 15 y_Gp_hurry ∈ tb := tb_2 215 rfl rfl
theorem m_Gp_72 : Cond.methodLink R_Gp 72 y_Gp_known ∈ tb := tb_2 219 rfl rfl
theorem q_Gp_205 : Cond.classLink R_Gp 205 "java/lang/IllegalStateException" ∈ tb := tb_2 223 rfl rfl
theorem m_Gp_207 : Cond.methodLink R_Gp 207 ⟨"java/lang/IllegalStateException", "<init>", "()V"⟩ ∈ tb := tb_2 232 rfl rfl
theorem m_Gp_80 : Cond.methodLink R_Gp 80 y_As_greatest ∈ tb := tb_2 238 rfl rfl
theorem m_La_80 : Cond.methodLink R_La 80 y_La_life ∈ tb := tb_2 239 rfl rfl
theorem m_La_21 : Cond.methodLink R_La 21 y_Gp_life ∈ tb := tb_3 2 rfl rfl
theorem m_La_84 : Cond.methodLink R_La 84 y_La_feed ∈ tb := tb_3 6 rfl rfl
theorem m_La_25 : Cond.methodLink R_La 25 y_Gp_feed ∈ tb := tb_3 9 rfl rfl
theorem m_Gp_90 : Cond.methodLink R_Gp 90 y_Ro_append ∈ tb := tb_3 13 rfl rfl
theorem m_La_92 : Cond.methodLink R_La 92 y_La_seal ∈ tb := tb_3 14 rfl rfl
theorem m_La_29 : Cond.methodLink R_La 29 y_Gp_seal ∈ tb := tb_3 17 rfl rfl
theorem m_Gp_96 : Cond.methodLink R_Gp 96 y_Gp_isByte ∈ tb := tb_3 21 rfl rfl
theorem m_Gp_99 : Cond.methodLink R_Gp 99 y_Gp_writePlain ∈ tb := tb_3 24 rfl rfl
theorem m_Gp_118 : Cond.methodLink R_Gp 118 y_Ro_appendNumber ∈ tb := tb_3 28 rfl rfl
theorem m_La_104 : Cond.methodLink R_La 104 y_La_spoil ∈ tb := tb_3 32 rfl rfl
theorem q_La_35 : Cond.classLink R_La 35 "java/lang/IndexOutOfBoundsException" ∈ tb := tb_3 35 rfl rfl
theorem m_La_32 : Cond.methodLink R_La 32 y_Gp_spoil ∈ tb := tb_3 36 rfl rfl
theorem q_Gp_129 : Cond.classLink R_Gp 129 "java/lang/IndexOutOfBoundsException" ∈ tb := tb_3 40 rfl rfl
theorem m_Gp_131 : Cond.methodLink R_Gp 131 ⟨"java/lang/IndexOutOfBoundsException", "<init>", "()V"⟩ ∈ tb := tb_3 49 rfl rfl
theorem m_Gp_136 : Cond.methodLink R_Gp 136 y_Ro_put ∈ tb := tb_3 55 rfl rfl
theorem m_La_107 : Cond.methodLink R_La 107 y_La_cut ∈ tb := tb_3 56 rfl rfl
theorem m_La_37 : Cond.methodLink R_La 37 y_Gp_cut ∈ tb := tb_3 59 rfl rfl
theorem m_La_111 : Cond.methodLink R_La 111 y_La_keep ∈ tb := tb_3 63 rfl rfl
theorem m_La_41 : Cond.methodLink R_La 41 y_Gp_keep ∈ tb := tb_3 66 rfl rfl
theorem m_Gp_140 : Cond.methodLink R_Gp 140 y_Gp_isPlace ∈ tb := tb_3 70 rfl rfl
theorem m_Gp_143 : Cond.methodLink R_Gp 143 y_Ro_become ∈ tb := tb_3 73 rfl rfl
theorem m_Ro_29 : Cond.methodLink R_Ro 29 y_Ro_appendRow ∈ tb := tb_3 77 rfl rfl
theorem m_La_114 : Cond.methodLink R_La 114 y_La_bring ∈ tb := tb_3 78 rfl rfl
theorem m_La_44 : Cond.methodLink R_La 44 y_Gp_bring ∈ tb := tb_3 81 rfl rfl
theorem m_La_130 : Cond.methodLink R_La 130 y_La_told ∈ tb := tb_3 85 rfl rfl
theorem m_La_48 : Cond.methodLink R_La 48 y_Gp_told ∈ tb := tb_3 88 rfl rfl
theorem m_La_133 : Cond.methodLink R_La 133 y_La_given ∈ tb := tb_3 92 rfl rfl
theorem m_La_52 : Cond.methodLink R_La 52 y_Gp_given ∈ tb := tb_3 95 rfl rfl
theorem m_Gp_199 : Cond.methodLink R_Gp 199 y_Wi_bitsFrom ∈ tb := tb_3 99 rfl rfl
theorem m_Wi_37 : Cond.methodLink R_Wi 37 y_Wi_has ∈ tb := tb_3 103 rfl rfl
theorem q_La_56 : Cond.classLink R_La 56 "GuardedPacketsModel" ∈ tb := tb_3 104 rfl rfl
theorem m_La_58 : Cond.methodLink R_La 58 y_Mo_init ∈ tb := tb_3 106 rfl rfl
theorem m_Mo_1 : Cond.methodLink R_Mo 1 objectInit ∈ tb := tb_3 109 rfl rfl
theorem m_Mo_90 : Cond.methodLink R_Mo 90 y_Mo_times ∈ tb := tb_3 110 rfl rfl
theorem f_Mo_94 : Cond.fieldLink R_Mo 94 "GuardedPacketsModel" "thrown" "I" ∈ tb := tb_3 113 rfl rfl
theorem f_Mo_7 : Cond.fieldLink R_Mo 7 "GuardedPacketsModel" "sub" "[I" ∈ tb := tb_3 114 rfl rfl
theorem f_Mo_13 : Cond.fieldLink R_Mo 13 "GuardedPacketsModel" "used" "[Z" ∈ tb := tb_3 115 rfl rfl
theorem f_Mo_17 : Cond.fieldLink R_Mo 17 "GuardedPacketsModel" "names" "[I" ∈ tb := tb_3 116 rfl rfl
theorem f_Mo_20 : Cond.fieldLink R_Mo 20 "GuardedPacketsModel" "words" "[I" ∈ tb := tb_3 117 rfl rfl
theorem f_Mo_23 : Cond.fieldLink R_Mo 23 "GuardedPacketsModel" "salts" "[I" ∈ tb := tb_3 118 rfl rfl
theorem f_Mo_26 : Cond.fieldLink R_Mo 26 "GuardedPacketsModel" "windows" "[I" ∈ tb := tb_3 119 rfl rfl
theorem f_Mo_29 : Cond.fieldLink R_Mo 29 "GuardedPacketsModel" "extended" "[Z" ∈ tb := tb_3 120 rfl rfl
theorem f_Mo_32 : Cond.fieldLink R_Mo 32 "GuardedPacketsModel" "lasts" "[J" ∈ tb := tb_3 121 rfl rfl
theorem f_Mo_36 : Cond.fieldLink R_Mo 36 "GuardedPacketsModel" "lives" "[I" ∈ tb := tb_3 122 rfl rfl
theorem f_Mo_39 : Cond.fieldLink R_Mo 39 "GuardedPacketsModel" "tops" "[J" ∈ tb := tb_3 123 rfl rfl
theorem f_Mo_42 : Cond.fieldLink R_Mo 42 "GuardedPacketsModel" "counts" "[J" ∈ tb := tb_3 124 rfl rfl
theorem f_Mo_45 : Cond.fieldLink R_Mo 45 "GuardedPacketsModel" "threes" "[I" ∈ tb := tb_3 125 rfl rfl
theorem f_Mo_48 : Cond.fieldLink R_Mo 48 "GuardedPacketsModel" "fours" "[I" ∈ tb := tb_3 126 rfl rfl
theorem f_Mo_51 : Cond.fieldLink R_Mo 51 "GuardedPacketsModel" "givenOut" "[J" ∈ tb := tb_3 127 rfl rfl
theorem f_Mo_54 : Cond.fieldLink R_Mo 54 "GuardedPacketsModel" "listed" "[I" ∈ tb := tb_3 128 rfl rfl
theorem f_Mo_57 : Cond.fieldLink R_Mo 57 "GuardedPacketsModel" "row" "[I" ∈ tb := tb_3 129 rfl rfl
theorem f_Mo_148 : Cond.fieldLink R_Mo 148 "GuardedPacketsModel" "fed" "I" ∈ tb := tb_3 130 rfl rfl
theorem f_Mo_60 : Cond.fieldLink R_Mo 60 "GuardedPacketsModel" "sent" "[I" ∈ tb := tb_3 131 rfl rfl
theorem f_Mo_151 : Cond.fieldLink R_Mo 151 "GuardedPacketsModel" "length" "I" ∈ tb := tb_3 132 rfl rfl
theorem f_Mo_63 : Cond.fieldLink R_Mo 63 "GuardedPacketsModel" "kept" "[I" ∈ tb := tb_3 133 rfl rfl
theorem f_Mo_66 : Cond.fieldLink R_Mo 66 "GuardedPacketsModel" "keptSizes" "[I" ∈ tb := tb_3 134 rfl rfl
theorem f_Mo_69 : Cond.fieldLink R_Mo 69 "GuardedPacketsModel" "result" "[I" ∈ tb := tb_3 135 rfl rfl
theorem f_Mo_168 : Cond.fieldLink R_Mo 168 "GuardedPacketsModel" "gotten" "I" ∈ tb := tb_3 136 rfl rfl
theorem f_Mo_72 : Cond.fieldLink R_Mo 72 "GuardedPacketsModel" "block" "[I" ∈ tb := tb_3 137 rfl rfl
theorem f_Mo_75 : Cond.fieldLink R_Mo 75 "GuardedPacketsModel" "moved" "[I" ∈ tb := tb_3 138 rfl rfl
theorem f_Mo_78 : Cond.fieldLink R_Mo 78 "GuardedPacketsModel" "check" "[I" ∈ tb := tb_3 139 rfl rfl
theorem f_Mo_81 : Cond.fieldLink R_Mo 81 "GuardedPacketsModel" "factor" "[I" ∈ tb := tb_3 140 rfl rfl
theorem f_Mo_84 : Cond.fieldLink R_Mo 84 "GuardedPacketsModel" "product" "[I" ∈ tb := tb_3 141 rfl rfl
theorem f_Mo_87 : Cond.fieldLink R_Mo 87 "GuardedPacketsModel" "tag" "[I" ∈ tb := tb_3 142 rfl rfl
theorem m_La_67 : Cond.methodLink R_La 67 y_Mo_thrown ∈ tb := tb_3 206 rfl rfl
theorem m_La_66 : Cond.methodLink R_La 66 y_Mo_add ∈ tb := tb_3 210 rfl rfl
theorem m_Mo_135 : Cond.methodLink R_Mo 135 y_Mo_find ∈ tb := tb_3 214 rfl rfl
theorem m_Mo_139 : Cond.methodLink R_Mo 139 y_Mo_spreadKey ∈ tb := tb_3 218 rfl rfl
theorem o_Mo_98 : Cond.constantLong R_Mo 98 (255) ∈ tb := tb_3 222 rfl rfl
theorem o_Mo_143 : Cond.constant R_Mo 143 (1000000000) ∈ tb := tb_3 223 rfl rfl
theorem m_La_75 : Cond.methodLink R_La 75 y_Mo_drop ∈ tb := tb_3 224 rfl rfl
theorem m_La_79 : Cond.methodLink R_La 79 y_Mo_hurry ∈ tb := tb_3 228 rfl rfl
theorem m_Mo_144 : Cond.methodLink R_Mo 144 y_Mo_greatest ∈ tb := tb_3 232 rfl rfl
theorem o_Mo_131 : Cond.constantLong R_Mo 131 (9223372036854775807) ∈ tb := tb_3 236 rfl rfl
theorem o_Mo_133 : Cond.constantLong R_Mo 133 (4294967295) ∈ tb := tb_3 237 rfl rfl
theorem m_La_83 : Cond.methodLink R_La 83 y_Mo_life ∈ tb := tb_3 238 rfl rfl
theorem m_La_87 : Cond.methodLink R_La 87 y_Mo_feed ∈ tb := tb_4 2 rfl rfl
theorem m_La_91 : Cond.methodLink R_La 91 y_Mo_wipe ∈ tb := tb_4 6 rfl rfl
theorem m_La_94 : Cond.methodLink R_La 94 y_Mo_seal ∈ tb := tb_4 10 rfl rfl
theorem m_Mo_154 : Cond.methodLink R_Mo 154 y_Mo_put ∈ tb := tb_4 14 rfl rfl
theorem m_Mo_119 : Cond.methodLink R_Mo 119 y_Mo_byteOf ∈ tb := tb_4 18 rfl rfl
theorem m_Mo_157 : Cond.methodLink R_Mo 157 y_Mo_turnBody ∈ tb := tb_4 21 rfl rfl
theorem m_Mo_128 : Cond.methodLink R_Mo 128 y_Mo_counted ∈ tb := tb_4 25 rfl rfl
theorem m_Mo_108 : Cond.methodLink R_Mo 108 y_Mo_encrypt ∈ tb := tb_4 29 rfl rfl
theorem m_Mo_100 : Cond.methodLink R_Mo 100 y_Mo_addWords ∈ tb := tb_4 33 rfl rfl
theorem m_Mo_104 : Cond.methodLink R_Mo 104 y_Mo_round ∈ tb := tb_4 37 rfl rfl
theorem m_Mo_160 : Cond.methodLink R_Mo 160 y_Mo_makeSeal ∈ tb := tb_4 41 rfl rfl
theorem m_Mo_123 : Cond.methodLink R_Mo 123 y_Mo_meet ∈ tb := tb_4 45 rfl rfl
theorem m_Mo_116 : Cond.methodLink R_Mo 116 y_Mo_multiply ∈ tb := tb_4 49 rfl rfl
theorem m_Mo_112 : Cond.methodLink R_Mo 112 y_Mo_bit ∈ tb := tb_4 53 rfl rfl
theorem o_Mo_126 : Cond.constantLong R_Mo 126 (8) ∈ tb := tb_4 56 rfl rfl
theorem m_La_98 : Cond.methodLink R_La 98 y_Mo_size ∈ tb := tb_4 57 rfl rfl
theorem m_La_103 : Cond.methodLink R_La 103 y_Mo_packet ∈ tb := tb_4 61 rfl rfl
theorem m_Mo_164 : Cond.methodLink R_Mo 164 y_Mo_eight ∈ tb := tb_4 65 rfl rfl
theorem m_La_106 : Cond.methodLink R_La 106 y_Mo_spoil ∈ tb := tb_4 68 rfl rfl
theorem m_La_110 : Cond.methodLink R_La 110 y_Mo_cut ∈ tb := tb_4 72 rfl rfl
theorem m_La_113 : Cond.methodLink R_La 113 y_Mo_keep ∈ tb := tb_4 76 rfl rfl
theorem m_La_117 : Cond.methodLink R_La 117 y_Mo_bring ∈ tb := tb_4 80 rfl rfl
theorem m_La_121 : Cond.methodLink R_La 121 y_Mo_open ∈ tb := tb_4 84 rfl rfl
theorem m_Mo_171 : Cond.methodLink R_Mo 171 y_Mo_fourBytes ∈ tb := tb_4 88 rfl rfl
theorem m_Mo_174 : Cond.methodLink R_Mo 174 y_Mo_isGiven ∈ tb := tb_4 92 rfl rfl
theorem m_Mo_178 : Cond.methodLink R_Mo 178 y_Mo_isSealed ∈ tb := tb_4 96 rfl rfl
theorem m_Mo_182 : Cond.methodLink R_Mo 182 y_Mo_give ∈ tb := tb_4 100 rfl rfl
theorem m_Mo_186 : Cond.methodLink R_Mo 186 y_Mo_takeBody ∈ tb := tb_4 104 rfl rfl
theorem m_La_125 : Cond.methodLink R_La 125 y_Mo_got ∈ tb := tb_4 108 rfl rfl
theorem m_La_129 : Cond.methodLink R_La 129 y_Mo_data ∈ tb := tb_4 112 rfl rfl
theorem m_La_132 : Cond.methodLink R_La 132 y_Mo_told ∈ tb := tb_4 116 rfl rfl
theorem m_La_135 : Cond.methodLink R_La 135 y_Mo_given ∈ tb := tb_4 120 rfl rfl
theorem m_La_139 : Cond.methodLink R_La 139 y_Mo_name ∈ tb := tb_4 124 rfl rfl
theorem o_La_59 : Cond.constantLong R_La 59 (4294967295) ∈ tb := tb_4 128 rfl rfl
theorem j_As : Cond.instantiable R_As 12 ∈ tb := tb_1 63 rfl rfl
theorem z_As : Cond.initialized R_As ∈ tb := tb_1 4 rfl rfl
theorem j_Ch : Cond.instantiable R_Ch 2 ∈ tb := tb_1 47 rfl rfl
theorem z_Ch : Cond.initialized R_Ch ∈ tb := tb_1 3 rfl rfl
theorem j_Ci : Cond.instantiable R_Ci 3 ∈ tb := tb_1 69 rfl rfl
theorem z_Ci : Cond.initialized R_Ci ∈ tb := tb_1 5 rfl rfl
theorem j_Ro : Cond.instantiable R_Ro 3 ∈ tb := tb_1 26 rfl rfl
theorem z_Ro : Cond.initialized R_Ro ∈ tb := tb_1 2 rfl rfl
theorem j_Wi : Cond.instantiable R_Wi 3 ∈ tb := tb_1 88 rfl rfl
theorem z_Wi : Cond.initialized R_Wi ∈ tb := tb_1 6 rfl rfl
theorem j_Gp : Cond.instantiable R_Gp 8 ∈ tb := tb_1 16 rfl rfl
theorem z_Gp : Cond.initialized R_Gp ∈ tb := tb_1 1 rfl rfl
theorem j_Mo : Cond.instantiable R_Mo 30 ∈ tb := tb_3 105 rfl rfl
theorem z_Mo : Cond.initialized R_Mo ∈ tb := tb_1 7 rfl rfl
theorem z_La : Cond.initialized R_La ∈ tb := tb_1 0 rfl rfl
theorem oi_1 : Cond.instanceMethod objectInit ∈ tb := tb_1 21 rfl rfl
theorem oi_2 : Cond.code objectInit ⟨#[0xb1]⟩ 1 none ∈ tb := tb_1 22 rfl rfl
theorem a_int : Cond.arrayClass .int ∈ tb := tb_1 86 rfl rfl
theorem a_byte : Cond.arrayClass .byte ∈ tb := tb_1 44 rfl rfl
theorem a_boolean : Cond.arrayClass .boolean ∈ tb := tb_3 204 rfl rfl
theorem a_long : Cond.arrayClass .long ∈ tb := tb_3 205 rfl rfl
end
section
theorem d_Gp_init_0 : decode b_Gp_init 0 = .ok (.aload_n 0, 1) := by decide +kernel
theorem d_Gp_init_1 : decode b_Gp_init 1 = .ok (.invokespecial 1, 3) := by decide +kernel
theorem d_Gp_init_4 : decode b_Gp_init 4 = .ok (.aload_n 0, 1) := by decide +kernel
theorem d_Gp_init_5 : decode b_Gp_init 5 = .ok (.bipush 16, 2) := by decide +kernel
theorem d_Gp_init_7 : decode b_Gp_init 7 = .ok (.anewarray 9, 3) := by decide +kernel
theorem d_Gp_init_10 : decode b_Gp_init 10 = .ok (.putfield 11, 3) := by decide +kernel
theorem d_Gp_init_13 : decode b_Gp_init 13 = .ok (.aload_n 0, 1) := by decide +kernel
theorem d_Gp_init_14 : decode b_Gp_init 14 = .ok (.iconst 0, 1) := by decide +kernel
theorem d_Gp_init_15 : decode b_Gp_init 15 = .ok (.putfield 15, 3) := by decide +kernel
theorem d_Gp_init_18 : decode b_Gp_init 18 = .ok (.aload_n 0, 1) := by decide +kernel
theorem d_Gp_init_19 : decode b_Gp_init 19 = .ok (.new 19, 3) := by decide +kernel
theorem d_Gp_init_22 : decode b_Gp_init 22 = .ok (.dup, 1) := by decide +kernel
theorem d_Gp_init_23 : decode b_Gp_init 23 = .ok (.sipush 200, 3) := by decide +kernel
theorem d_Gp_init_26 : decode b_Gp_init 26 = .ok (.invokespecial 21, 3) := by decide +kernel
theorem d_Gp_init_29 : decode b_Gp_init 29 = .ok (.putfield 24, 3) := by decide +kernel
theorem d_Gp_init_32 : decode b_Gp_init 32 = .ok (.aload_n 0, 1) := by decide +kernel
theorem d_Gp_init_33 : decode b_Gp_init 33 = .ok (.new 19, 3) := by decide +kernel
theorem d_Gp_init_36 : decode b_Gp_init 36 = .ok (.dup, 1) := by decide +kernel
theorem d_Gp_init_37 : decode b_Gp_init 37 = .ok (.sipush 236, 3) := by decide +kernel
theorem d_Gp_init_40 : decode b_Gp_init 40 = .ok (.invokespecial 21, 3) := by decide +kernel
theorem d_Gp_init_43 : decode b_Gp_init 43 = .ok (.putfield 28, 3) := by decide +kernel
theorem d_Gp_init_46 : decode b_Gp_init 46 = .ok (.aload_n 0, 1) := by decide +kernel
theorem d_Gp_init_47 : decode b_Gp_init 47 = .ok (.bipush 8, 2) := by decide +kernel
theorem d_Gp_init_49 : decode b_Gp_init 49 = .ok (.anewarray 19, 3) := by decide +kernel
theorem d_Gp_init_52 : decode b_Gp_init 52 = .ok (.putfield 31, 3) := by decide +kernel
theorem d_Gp_init_55 : decode b_Gp_init 55 = .ok (.aload_n 0, 1) := by decide +kernel
theorem d_Gp_init_56 : decode b_Gp_init 56 = .ok (.new 19, 3) := by decide +kernel
theorem d_Gp_init_59 : decode b_Gp_init 59 = .ok (.dup, 1) := by decide +kernel
theorem d_Gp_init_60 : decode b_Gp_init 60 = .ok (.sipush 204, 3) := by decide +kernel
theorem d_Gp_init_63 : decode b_Gp_init 63 = .ok (.invokespecial 21, 3) := by decide +kernel
theorem d_Gp_init_66 : decode b_Gp_init 66 = .ok (.putfield 35, 3) := by decide +kernel
theorem d_Gp_init_69 : decode b_Gp_init 69 = .ok (.aload_n 0, 1) := by decide +kernel
theorem d_Gp_init_70 : decode b_Gp_init 70 = .ok (.new 19, 3) := by decide +kernel
theorem d_Gp_init_73 : decode b_Gp_init 73 = .ok (.dup, 1) := by decide +kernel
theorem d_Gp_init_74 : decode b_Gp_init 74 = .ok (.sipush 204, 3) := by decide +kernel
theorem d_Gp_init_77 : decode b_Gp_init 77 = .ok (.invokespecial 21, 3) := by decide +kernel
theorem d_Gp_init_80 : decode b_Gp_init 80 = .ok (.putfield 38, 3) := by decide +kernel
theorem d_Gp_init_83 : decode b_Gp_init 83 = .ok (.aload_n 0, 1) := by decide +kernel
theorem d_Gp_init_84 : decode b_Gp_init 84 = .ok (.new 41, 3) := by decide +kernel
theorem d_Gp_init_87 : decode b_Gp_init 87 = .ok (.dup, 1) := by decide +kernel
theorem d_Gp_init_88 : decode b_Gp_init 88 = .ok (.invokespecial 43, 3) := by decide +kernel
theorem d_Gp_init_91 : decode b_Gp_init 91 = .ok (.putfield 44, 3) := by decide +kernel
theorem d_Gp_init_94 : decode b_Gp_init 94 = .ok (.iconst 0, 1) := by decide +kernel
theorem d_Gp_init_95 : decode b_Gp_init 95 = .ok (.istore_n 1, 1) := by decide +kernel
theorem d_Gp_init_96 : decode b_Gp_init 96 = .ok (.iload_n 1, 1) := by decide +kernel
theorem d_Gp_init_97 : decode b_Gp_init 97 = .ok (.bipush 16, 2) := by decide +kernel
theorem d_Gp_init_99 : decode b_Gp_init 99 = .ok (.if_icmp .ge 22, 3) := by decide +kernel
theorem d_Gp_init_102 : decode b_Gp_init 102 = .ok (.aload_n 0, 1) := by decide +kernel
theorem d_Gp_init_103 : decode b_Gp_init 103 = .ok (.getfield 11, 3) := by decide +kernel
theorem d_Gp_init_106 : decode b_Gp_init 106 = .ok (.iload_n 1, 1) := by decide +kernel
theorem d_Gp_init_107 : decode b_Gp_init 107 = .ok (.new 9, 3) := by decide +kernel
theorem d_Gp_init_110 : decode b_Gp_init 110 = .ok (.dup, 1) := by decide +kernel
theorem d_Gp_init_111 : decode b_Gp_init 111 = .ok (.invokespecial 48, 3) := by decide +kernel
theorem d_Gp_init_114 : decode b_Gp_init 114 = .ok (.aastore, 1) := by decide +kernel
theorem d_Gp_init_115 : decode b_Gp_init 115 = .ok (.iinc 1 1, 3) := by decide +kernel
theorem d_Gp_init_118 : decode b_Gp_init 118 = .ok (.goto (-22), 3) := by decide +kernel
theorem d_Gp_init_121 : decode b_Gp_init 121 = .ok (.iconst 0, 1) := by decide +kernel
theorem d_Gp_init_122 : decode b_Gp_init 122 = .ok (.istore_n 1, 1) := by decide +kernel
theorem d_Gp_init_123 : decode b_Gp_init 123 = .ok (.iload_n 1, 1) := by decide +kernel
theorem d_Gp_init_124 : decode b_Gp_init 124 = .ok (.bipush 8, 2) := by decide +kernel
theorem d_Gp_init_126 : decode b_Gp_init 126 = .ok (.if_icmp .ge 25, 3) := by decide +kernel
theorem d_Gp_init_129 : decode b_Gp_init 129 = .ok (.aload_n 0, 1) := by decide +kernel
theorem d_Gp_init_130 : decode b_Gp_init 130 = .ok (.getfield 31, 3) := by decide +kernel
theorem d_Gp_init_133 : decode b_Gp_init 133 = .ok (.iload_n 1, 1) := by decide +kernel
theorem d_Gp_init_134 : decode b_Gp_init 134 = .ok (.new 19, 3) := by decide +kernel
theorem d_Gp_init_137 : decode b_Gp_init 137 = .ok (.dup, 1) := by decide +kernel
theorem d_Gp_init_138 : decode b_Gp_init 138 = .ok (.sipush 236, 3) := by decide +kernel
theorem d_Gp_init_141 : decode b_Gp_init 141 = .ok (.invokespecial 21, 3) := by decide +kernel
theorem d_Gp_init_144 : decode b_Gp_init 144 = .ok (.aastore, 1) := by decide +kernel
theorem d_Gp_init_145 : decode b_Gp_init 145 = .ok (.iinc 1 1, 3) := by decide +kernel
theorem d_Gp_init_148 : decode b_Gp_init 148 = .ok (.goto (-25), 3) := by decide +kernel
theorem d_Gp_init_151 : decode b_Gp_init 151 = .ok (.return_, 1) := by decide +kernel
theorem d_Gp_add_0 : decode b_Gp_add 0 = .ok (.iload_n 1, 1) := by decide +kernel
theorem d_Gp_add_1 : decode b_Gp_add 1 = .ok (.sipush 256, 3) := by decide +kernel
theorem d_Gp_add_4 : decode b_Gp_add 4 = .ok (.if_icmp .lt 11, 3) := by decide +kernel
theorem d_Gp_add_7 : decode b_Gp_add 7 = .ok (.iload 7, 2) := by decide +kernel
theorem d_Gp_add_9 : decode b_Gp_add 9 = .ok (.invokestatic 49, 3) := by decide +kernel
theorem d_Gp_add_12 : decode b_Gp_add 12 = .ok (.ifCond .ne 11, 3) := by decide +kernel
theorem d_Gp_add_15 : decode b_Gp_add 15 = .ok (.new 53, 3) := by decide +kernel
theorem d_Gp_add_18 : decode b_Gp_add 18 = .ok (.dup, 1) := by decide +kernel
theorem d_Gp_add_19 : decode b_Gp_add 19 = .ok (.invokespecial 55, 3) := by decide +kernel
theorem d_Gp_add_22 : decode b_Gp_add 22 = .ok (.athrow, 1) := by decide +kernel
theorem d_Gp_add_23 : decode b_Gp_add 23 = .ok (.aload_n 0, 1) := by decide +kernel
theorem d_Gp_add_24 : decode b_Gp_add 24 = .ok (.iload_n 1, 1) := by decide +kernel
theorem d_Gp_add_25 : decode b_Gp_add 25 = .ok (.invokevirtual 56, 3) := by decide +kernel
theorem d_Gp_add_28 : decode b_Gp_add 28 = .ok (.istore 9, 2) := by decide +kernel
theorem d_Gp_add_30 : decode b_Gp_add 30 = .ok (.aload_n 0, 1) := by decide +kernel
theorem d_Gp_add_31 : decode b_Gp_add 31 = .ok (.getfield 15, 3) := by decide +kernel
theorem d_Gp_add_34 : decode b_Gp_add 34 = .ok (.bipush 16, 2) := by decide +kernel
theorem d_Gp_add_36 : decode b_Gp_add 36 = .ok (.if_icmp .ge 13, 3) := by decide +kernel
theorem d_Gp_add_39 : decode b_Gp_add 39 = .ok (.aload_n 0, 1) := by decide +kernel
theorem d_Gp_add_40 : decode b_Gp_add 40 = .ok (.iload 9, 2) := by decide +kernel
theorem d_Gp_add_42 : decode b_Gp_add 42 = .ok (.iload_n 1, 1) := by decide +kernel
theorem d_Gp_add_43 : decode b_Gp_add 43 = .ok (.invokevirtual 60, 3) := by decide +kernel
theorem d_Gp_add_46 : decode b_Gp_add 46 = .ok (.ifCond .eq 5, 3) := by decide +kernel
theorem d_Gp_add_49 : decode b_Gp_add 49 = .ok (.iconst 0, 1) := by decide +kernel
theorem d_Gp_add_50 : decode b_Gp_add 50 = .ok (.ireturn, 1) := by decide +kernel
theorem d_Gp_add_51 : decode b_Gp_add 51 = .ok (.aload_n 0, 1) := by decide +kernel
theorem d_Gp_add_52 : decode b_Gp_add 52 = .ok (.getfield 11, 3) := by decide +kernel
theorem d_Gp_add_55 : decode b_Gp_add 55 = .ok (.aload_n 0, 1) := by decide +kernel
theorem d_Gp_add_56 : decode b_Gp_add 56 = .ok (.getfield 15, 3) := by decide +kernel
theorem d_Gp_add_59 : decode b_Gp_add 59 = .ok (.aaload, 1) := by decide +kernel
theorem d_Gp_add_60 : decode b_Gp_add 60 = .ok (.astore 10, 2) := by decide +kernel
theorem d_Gp_add_62 : decode b_Gp_add 62 = .ok (.aload_n 0, 1) := by decide +kernel
theorem d_Gp_add_63 : decode b_Gp_add 63 = .ok (.getfield 15, 3) := by decide +kernel
theorem d_Gp_add_66 : decode b_Gp_add 66 = .ok (.istore 11, 2) := by decide +kernel
theorem d_Gp_add_68 : decode b_Gp_add 68 = .ok (.iload 11, 2) := by decide +kernel
theorem d_Gp_add_70 : decode b_Gp_add 70 = .ok (.iload 9, 2) := by decide +kernel
theorem d_Gp_add_72 : decode b_Gp_add 72 = .ok (.if_icmp .le 25, 3) := by decide +kernel
theorem d_Gp_add_75 : decode b_Gp_add 75 = .ok (.aload_n 0, 1) := by decide +kernel
theorem d_Gp_add_76 : decode b_Gp_add 76 = .ok (.getfield 11, 3) := by decide +kernel
theorem d_Gp_add_79 : decode b_Gp_add 79 = .ok (.iload 11, 2) := by decide +kernel
theorem d_Gp_add_81 : decode b_Gp_add 81 = .ok (.aload_n 0, 1) := by decide +kernel
theorem d_Gp_add_82 : decode b_Gp_add 82 = .ok (.getfield 11, 3) := by decide +kernel
theorem d_Gp_add_85 : decode b_Gp_add 85 = .ok (.iload 11, 2) := by decide +kernel
theorem d_Gp_add_87 : decode b_Gp_add 87 = .ok (.iconst 1, 1) := by decide +kernel
theorem d_Gp_add_88 : decode b_Gp_add 88 = .ok (.isub, 1) := by decide +kernel
theorem d_Gp_add_89 : decode b_Gp_add 89 = .ok (.aaload, 1) := by decide +kernel
theorem d_Gp_add_90 : decode b_Gp_add 90 = .ok (.aastore, 1) := by decide +kernel
theorem d_Gp_add_91 : decode b_Gp_add 91 = .ok (.iinc 11 (-1), 3) := by decide +kernel
theorem d_Gp_add_94 : decode b_Gp_add 94 = .ok (.goto (-26), 3) := by decide +kernel
theorem d_Gp_add_97 : decode b_Gp_add 97 = .ok (.aload_n 0, 1) := by decide +kernel
theorem d_Gp_add_98 : decode b_Gp_add 98 = .ok (.getfield 11, 3) := by decide +kernel
theorem d_Gp_add_101 : decode b_Gp_add 101 = .ok (.iload 9, 2) := by decide +kernel
theorem d_Gp_add_103 : decode b_Gp_add 103 = .ok (.aload 10, 2) := by decide +kernel
theorem d_Gp_add_105 : decode b_Gp_add 105 = .ok (.aastore, 1) := by decide +kernel
theorem d_Gp_add_106 : decode b_Gp_add 106 = .ok (.aload_n 0, 1) := by decide +kernel
theorem d_Gp_add_107 : decode b_Gp_add 107 = .ok (.dup, 1) := by decide +kernel
theorem d_Gp_add_108 : decode b_Gp_add 108 = .ok (.getfield 15, 3) := by decide +kernel
theorem d_Gp_add_111 : decode b_Gp_add 111 = .ok (.iconst 1, 1) := by decide +kernel
theorem d_Gp_add_112 : decode b_Gp_add 112 = .ok (.iadd, 1) := by decide +kernel
theorem d_Gp_add_113 : decode b_Gp_add 113 = .ok (.putfield 15, 3) := by decide +kernel
theorem d_Gp_add_116 : decode b_Gp_add 116 = .ok (.aload 10, 2) := by decide +kernel
theorem d_Gp_add_118 : decode b_Gp_add 118 = .ok (.iload_n 1, 1) := by decide +kernel
theorem d_Gp_add_119 : decode b_Gp_add 119 = .ok (.iload 6, 2) := by decide +kernel
theorem d_Gp_add_121 : decode b_Gp_add 121 = .ok (.iload 7, 2) := by decide +kernel
theorem d_Gp_add_123 : decode b_Gp_add 123 = .ok (.iload 8, 2) := by decide +kernel
theorem d_Gp_add_125 : decode b_Gp_add 125 = .ok (.invokevirtual 64, 3) := by decide +kernel
theorem d_Gp_add_128 : decode b_Gp_add 128 = .ok (.aload 10, 2) := by decide +kernel
theorem d_Gp_add_130 : decode b_Gp_add 130 = .ok (.lload_n 2, 1) := by decide +kernel
theorem d_Gp_add_131 : decode b_Gp_add 131 = .ok (.lload 4, 2) := by decide +kernel
theorem d_Gp_add_133 : decode b_Gp_add 133 = .ok (.invokevirtual 68, 3) := by decide +kernel
theorem d_Gp_add_136 : decode b_Gp_add 136 = .ok (.iconst 1, 1) := by decide +kernel
theorem d_Gp_add_137 : decode b_Gp_add 137 = .ok (.ireturn, 1) := by decide +kernel
theorem d_Gp_drop_0 : decode b_Gp_drop 0 = .ok (.aload_n 0, 1) := by decide +kernel
theorem d_Gp_drop_1 : decode b_Gp_drop 1 = .ok (.iload_n 1, 1) := by decide +kernel
theorem d_Gp_drop_2 : decode b_Gp_drop 2 = .ok (.invokevirtual 56, 3) := by decide +kernel
theorem d_Gp_drop_5 : decode b_Gp_drop 5 = .ok (.istore_n 2, 1) := by decide +kernel
theorem d_Gp_drop_6 : decode b_Gp_drop 6 = .ok (.aload_n 0, 1) := by decide +kernel
theorem d_Gp_drop_7 : decode b_Gp_drop 7 = .ok (.iload_n 2, 1) := by decide +kernel
theorem d_Gp_drop_8 : decode b_Gp_drop 8 = .ok (.iload_n 1, 1) := by decide +kernel
theorem d_Gp_drop_9 : decode b_Gp_drop 9 = .ok (.invokevirtual 60, 3) := by decide +kernel
theorem d_Gp_drop_12 : decode b_Gp_drop 12 = .ok (.ifCond .ne 5, 3) := by decide +kernel
theorem d_Gp_drop_15 : decode b_Gp_drop 15 = .ok (.iconst 0, 1) := by decide +kernel
theorem d_Gp_drop_16 : decode b_Gp_drop 16 = .ok (.ireturn, 1) := by decide +kernel
theorem d_Gp_drop_17 : decode b_Gp_drop 17 = .ok (.aload_n 0, 1) := by decide +kernel
theorem d_Gp_drop_18 : decode b_Gp_drop 18 = .ok (.getfield 11, 3) := by decide +kernel
theorem d_Gp_drop_21 : decode b_Gp_drop 21 = .ok (.iload_n 2, 1) := by decide +kernel
theorem d_Gp_drop_22 : decode b_Gp_drop 22 = .ok (.aaload, 1) := by decide +kernel
theorem d_Gp_drop_23 : decode b_Gp_drop 23 = .ok (.astore_n 3, 1) := by decide +kernel
theorem d_Gp_drop_24 : decode b_Gp_drop 24 = .ok (.aload_n 0, 1) := by decide +kernel
theorem d_Gp_drop_25 : decode b_Gp_drop 25 = .ok (.dup, 1) := by decide +kernel
theorem d_Gp_drop_26 : decode b_Gp_drop 26 = .ok (.getfield 15, 3) := by decide +kernel
theorem d_Gp_drop_29 : decode b_Gp_drop 29 = .ok (.iconst 1, 1) := by decide +kernel
theorem d_Gp_drop_30 : decode b_Gp_drop 30 = .ok (.isub, 1) := by decide +kernel
theorem d_Gp_drop_31 : decode b_Gp_drop 31 = .ok (.putfield 15, 3) := by decide +kernel
theorem d_Gp_drop_34 : decode b_Gp_drop 34 = .ok (.iload_n 2, 1) := by decide +kernel
theorem d_Gp_drop_35 : decode b_Gp_drop 35 = .ok (.istore 4, 2) := by decide +kernel
theorem d_Gp_drop_37 : decode b_Gp_drop 37 = .ok (.iload 4, 2) := by decide +kernel
theorem d_Gp_drop_39 : decode b_Gp_drop 39 = .ok (.aload_n 0, 1) := by decide +kernel
theorem d_Gp_drop_40 : decode b_Gp_drop 40 = .ok (.getfield 15, 3) := by decide +kernel
theorem d_Gp_drop_43 : decode b_Gp_drop 43 = .ok (.if_icmp .ge 25, 3) := by decide +kernel
theorem d_Gp_drop_46 : decode b_Gp_drop 46 = .ok (.aload_n 0, 1) := by decide +kernel
theorem d_Gp_drop_47 : decode b_Gp_drop 47 = .ok (.getfield 11, 3) := by decide +kernel
theorem d_Gp_drop_50 : decode b_Gp_drop 50 = .ok (.iload 4, 2) := by decide +kernel
theorem d_Gp_drop_52 : decode b_Gp_drop 52 = .ok (.aload_n 0, 1) := by decide +kernel
theorem d_Gp_drop_53 : decode b_Gp_drop 53 = .ok (.getfield 11, 3) := by decide +kernel
theorem d_Gp_drop_56 : decode b_Gp_drop 56 = .ok (.iload 4, 2) := by decide +kernel
theorem d_Gp_drop_58 : decode b_Gp_drop 58 = .ok (.iconst 1, 1) := by decide +kernel
theorem d_Gp_drop_59 : decode b_Gp_drop 59 = .ok (.iadd, 1) := by decide +kernel
theorem d_Gp_drop_60 : decode b_Gp_drop 60 = .ok (.aaload, 1) := by decide +kernel
theorem d_Gp_drop_61 : decode b_Gp_drop 61 = .ok (.aastore, 1) := by decide +kernel
theorem d_Gp_drop_62 : decode b_Gp_drop 62 = .ok (.iinc 4 1, 3) := by decide +kernel
theorem d_Gp_drop_65 : decode b_Gp_drop 65 = .ok (.goto (-28), 3) := by decide +kernel
theorem d_Gp_drop_68 : decode b_Gp_drop 68 = .ok (.aload_n 0, 1) := by decide +kernel
theorem d_Gp_drop_69 : decode b_Gp_drop 69 = .ok (.getfield 11, 3) := by decide +kernel
theorem d_Gp_drop_72 : decode b_Gp_drop 72 = .ok (.aload_n 0, 1) := by decide +kernel
theorem d_Gp_drop_73 : decode b_Gp_drop 73 = .ok (.getfield 15, 3) := by decide +kernel
theorem d_Gp_drop_76 : decode b_Gp_drop 76 = .ok (.aload_n 3, 1) := by decide +kernel
theorem d_Gp_drop_77 : decode b_Gp_drop 77 = .ok (.aastore, 1) := by decide +kernel
theorem d_Gp_drop_78 : decode b_Gp_drop 78 = .ok (.iconst 1, 1) := by decide +kernel
theorem d_Gp_drop_79 : decode b_Gp_drop 79 = .ok (.ireturn, 1) := by decide +kernel
theorem d_Gp_hurry_0 : decode b_Gp_hurry 0 = .ok (.aload_n 0, 1) := by decide +kernel
theorem d_Gp_hurry_1 : decode b_Gp_hurry 1 = .ok (.iload_n 1, 1) := by decide +kernel
theorem d_Gp_hurry_2 : decode b_Gp_hurry 2 = .ok (.invokevirtual 72, 3) := by decide +kernel
theorem d_Gp_hurry_5 : decode b_Gp_hurry 5 = .ok (.astore 4, 2) := by decide +kernel
theorem d_Gp_hurry_7 : decode b_Gp_hurry 7 = .ok (.lload_n 2, 1) := by decide +kernel
theorem d_Gp_hurry_8 : decode b_Gp_hurry 8 = .ok (.aload 4, 2) := by decide +kernel
theorem d_Gp_hurry_10 : decode b_Gp_hurry 10 = .ok (.getfield 76, 3) := by decide +kernel
theorem d_Gp_hurry_13 : decode b_Gp_hurry 13 = .ok (.lcmp, 1) := by decide +kernel
theorem d_Gp_hurry_14 : decode b_Gp_hurry 14 = .ok (.ifCond .lt 13, 3) := by decide +kernel
theorem d_Gp_hurry_17 : decode b_Gp_hurry 17 = .ok (.lload_n 2, 1) := by decide +kernel
theorem d_Gp_hurry_18 : decode b_Gp_hurry 18 = .ok (.aload 4, 2) := by decide +kernel
theorem d_Gp_hurry_20 : decode b_Gp_hurry 20 = .ok (.invokevirtual 80, 3) := by decide +kernel
theorem d_Gp_hurry_23 : decode b_Gp_hurry 23 = .ok (.lcmp, 1) := by decide +kernel
theorem d_Gp_hurry_24 : decode b_Gp_hurry 24 = .ok (.ifCond .le 11, 3) := by decide +kernel
theorem d_Gp_hurry_27 : decode b_Gp_hurry 27 = .ok (.new 53, 3) := by decide +kernel
theorem d_Gp_hurry_30 : decode b_Gp_hurry 30 = .ok (.dup, 1) := by decide +kernel
theorem d_Gp_hurry_31 : decode b_Gp_hurry 31 = .ok (.invokespecial 55, 3) := by decide +kernel
theorem d_Gp_hurry_34 : decode b_Gp_hurry 34 = .ok (.athrow, 1) := by decide +kernel
theorem d_Gp_hurry_35 : decode b_Gp_hurry 35 = .ok (.aload 4, 2) := by decide +kernel
theorem d_Gp_hurry_37 : decode b_Gp_hurry 37 = .ok (.lload_n 2, 1) := by decide +kernel
theorem d_Gp_hurry_38 : decode b_Gp_hurry 38 = .ok (.putfield 76, 3) := by decide +kernel
theorem d_Gp_hurry_41 : decode b_Gp_hurry 41 = .ok (.return_, 1) := by decide +kernel
theorem d_Gp_life_0 : decode b_Gp_life 0 = .ok (.aload_n 0, 1) := by decide +kernel
theorem d_Gp_life_1 : decode b_Gp_life 1 = .ok (.iload_n 1, 1) := by decide +kernel
theorem d_Gp_life_2 : decode b_Gp_life 2 = .ok (.invokevirtual 72, 3) := by decide +kernel
theorem d_Gp_life_5 : decode b_Gp_life 5 = .ok (.astore_n 3, 1) := by decide +kernel
theorem d_Gp_life_6 : decode b_Gp_life 6 = .ok (.iload_n 2, 1) := by decide +kernel
theorem d_Gp_life_7 : decode b_Gp_life 7 = .ok (.ifCond .ge 11, 3) := by decide +kernel
theorem d_Gp_life_10 : decode b_Gp_life 10 = .ok (.new 53, 3) := by decide +kernel
theorem d_Gp_life_13 : decode b_Gp_life 13 = .ok (.dup, 1) := by decide +kernel
theorem d_Gp_life_14 : decode b_Gp_life 14 = .ok (.invokespecial 55, 3) := by decide +kernel
theorem d_Gp_life_17 : decode b_Gp_life 17 = .ok (.athrow, 1) := by decide +kernel
theorem d_Gp_life_18 : decode b_Gp_life 18 = .ok (.aload_n 3, 1) := by decide +kernel
theorem d_Gp_life_19 : decode b_Gp_life 19 = .ok (.getfield 84, 3) := by decide +kernel
theorem d_Gp_life_22 : decode b_Gp_life 22 = .ok (.istore 4, 2) := by decide +kernel
theorem d_Gp_life_24 : decode b_Gp_life 24 = .ok (.aload_n 3, 1) := by decide +kernel
theorem d_Gp_life_25 : decode b_Gp_life 25 = .ok (.iload_n 2, 1) := by decide +kernel
theorem d_Gp_life_26 : decode b_Gp_life 26 = .ok (.putfield 84, 3) := by decide +kernel
theorem d_Gp_life_29 : decode b_Gp_life 29 = .ok (.iload 4, 2) := by decide +kernel
theorem d_Gp_life_31 : decode b_Gp_life 31 = .ok (.ireturn, 1) := by decide +kernel
theorem d_Gp_feed_0 : decode b_Gp_feed 0 = .ok (.iload_n 1, 1) := by decide +kernel
theorem d_Gp_feed_1 : decode b_Gp_feed 1 = .ok (.iconst 1, 1) := by decide +kernel
theorem d_Gp_feed_2 : decode b_Gp_feed 2 = .ok (.if_icmp .lt 9, 3) := by decide +kernel
theorem d_Gp_feed_5 : decode b_Gp_feed 5 = .ok (.iload_n 1, 1) := by decide +kernel
theorem d_Gp_feed_6 : decode b_Gp_feed 6 = .ok (.bipush 8, 2) := by decide +kernel
theorem d_Gp_feed_8 : decode b_Gp_feed 8 = .ok (.if_icmp .le 11, 3) := by decide +kernel
theorem d_Gp_feed_11 : decode b_Gp_feed 11 = .ok (.new 53, 3) := by decide +kernel
theorem d_Gp_feed_14 : decode b_Gp_feed 14 = .ok (.dup, 1) := by decide +kernel
theorem d_Gp_feed_15 : decode b_Gp_feed 15 = .ok (.invokespecial 55, 3) := by decide +kernel
theorem d_Gp_feed_18 : decode b_Gp_feed 18 = .ok (.athrow, 1) := by decide +kernel
theorem d_Gp_feed_19 : decode b_Gp_feed 19 = .ok (.aload_n 0, 1) := by decide +kernel
theorem d_Gp_feed_20 : decode b_Gp_feed 20 = .ok (.getfield 24, 3) := by decide +kernel
theorem d_Gp_feed_23 : decode b_Gp_feed 23 = .ok (.getfield 87, 3) := by decide +kernel
theorem d_Gp_feed_26 : decode b_Gp_feed 26 = .ok (.iload_n 1, 1) := by decide +kernel
theorem d_Gp_feed_27 : decode b_Gp_feed 27 = .ok (.iadd, 1) := by decide +kernel
theorem d_Gp_feed_28 : decode b_Gp_feed 28 = .ok (.sipush 200, 3) := by decide +kernel
theorem d_Gp_feed_31 : decode b_Gp_feed 31 = .ok (.if_icmp .le 5, 3) := by decide +kernel
theorem d_Gp_feed_34 : decode b_Gp_feed 34 = .ok (.iconst (-1), 1) := by decide +kernel
theorem d_Gp_feed_35 : decode b_Gp_feed 35 = .ok (.ireturn, 1) := by decide +kernel
theorem d_Gp_feed_36 : decode b_Gp_feed 36 = .ok (.iconst 0, 1) := by decide +kernel
theorem d_Gp_feed_37 : decode b_Gp_feed 37 = .ok (.istore 4, 2) := by decide +kernel
theorem d_Gp_feed_39 : decode b_Gp_feed 39 = .ok (.iload 4, 2) := by decide +kernel
theorem d_Gp_feed_41 : decode b_Gp_feed 41 = .ok (.iload_n 1, 1) := by decide +kernel
theorem d_Gp_feed_42 : decode b_Gp_feed 42 = .ok (.if_icmp .ge 24, 3) := by decide +kernel
theorem d_Gp_feed_45 : decode b_Gp_feed 45 = .ok (.aload_n 0, 1) := by decide +kernel
theorem d_Gp_feed_46 : decode b_Gp_feed 46 = .ok (.getfield 24, 3) := by decide +kernel
theorem d_Gp_feed_49 : decode b_Gp_feed 49 = .ok (.lload_n 2, 1) := by decide +kernel
theorem d_Gp_feed_50 : decode b_Gp_feed 50 = .ok (.bipush 8, 2) := by decide +kernel
theorem d_Gp_feed_52 : decode b_Gp_feed 52 = .ok (.iload 4, 2) := by decide +kernel
theorem d_Gp_feed_54 : decode b_Gp_feed 54 = .ok (.imul, 1) := by decide +kernel
theorem d_Gp_feed_55 : decode b_Gp_feed 55 = .ok (.lushr, 1) := by decide +kernel
theorem d_Gp_feed_56 : decode b_Gp_feed 56 = .ok (.l2i, 1) := by decide +kernel
theorem d_Gp_feed_57 : decode b_Gp_feed 57 = .ok (.invokevirtual 90, 3) := by decide +kernel
theorem d_Gp_feed_60 : decode b_Gp_feed 60 = .ok (.iinc 4 1, 3) := by decide +kernel
theorem d_Gp_feed_63 : decode b_Gp_feed 63 = .ok (.goto (-24), 3) := by decide +kernel
theorem d_Gp_feed_66 : decode b_Gp_feed 66 = .ok (.aload_n 0, 1) := by decide +kernel
theorem d_Gp_feed_67 : decode b_Gp_feed 67 = .ok (.getfield 24, 3) := by decide +kernel
theorem d_Gp_feed_70 : decode b_Gp_feed 70 = .ok (.getfield 87, 3) := by decide +kernel
theorem d_Gp_feed_73 : decode b_Gp_feed 73 = .ok (.ireturn, 1) := by decide +kernel
theorem d_Gp_wipe_0 : decode b_Gp_wipe 0 = .ok (.aload_n 0, 1) := by decide +kernel
theorem d_Gp_wipe_1 : decode b_Gp_wipe 1 = .ok (.getfield 24, 3) := by decide +kernel
theorem d_Gp_wipe_4 : decode b_Gp_wipe 4 = .ok (.getfield 87, 3) := by decide +kernel
theorem d_Gp_wipe_7 : decode b_Gp_wipe 7 = .ok (.istore_n 1, 1) := by decide +kernel
theorem d_Gp_wipe_8 : decode b_Gp_wipe 8 = .ok (.aload_n 0, 1) := by decide +kernel
theorem d_Gp_wipe_9 : decode b_Gp_wipe 9 = .ok (.getfield 24, 3) := by decide +kernel
theorem d_Gp_wipe_12 : decode b_Gp_wipe 12 = .ok (.iconst 0, 1) := by decide +kernel
theorem d_Gp_wipe_13 : decode b_Gp_wipe 13 = .ok (.invokevirtual 93, 3) := by decide +kernel
theorem d_Gp_wipe_16 : decode b_Gp_wipe 16 = .ok (.iload_n 1, 1) := by decide +kernel
theorem d_Gp_wipe_17 : decode b_Gp_wipe 17 = .ok (.ireturn, 1) := by decide +kernel
theorem d_Gp_seal_0 : decode b_Gp_seal 0 = .ok (.aload_n 0, 1) := by decide +kernel
theorem d_Gp_seal_1 : decode b_Gp_seal 1 = .ok (.iload_n 1, 1) := by decide +kernel
theorem d_Gp_seal_2 : decode b_Gp_seal 2 = .ok (.invokevirtual 72, 3) := by decide +kernel
theorem d_Gp_seal_5 : decode b_Gp_seal 5 = .ok (.astore_n 3, 1) := by decide +kernel
theorem d_Gp_seal_6 : decode b_Gp_seal 6 = .ok (.iload_n 2, 1) := by decide +kernel
theorem d_Gp_seal_7 : decode b_Gp_seal 7 = .ok (.invokestatic 96, 3) := by decide +kernel
theorem d_Gp_seal_10 : decode b_Gp_seal 10 = .ok (.ifCond .ne 11, 3) := by decide +kernel
theorem d_Gp_seal_13 : decode b_Gp_seal 13 = .ok (.new 53, 3) := by decide +kernel
theorem d_Gp_seal_16 : decode b_Gp_seal 16 = .ok (.dup, 1) := by decide +kernel
theorem d_Gp_seal_17 : decode b_Gp_seal 17 = .ok (.invokespecial 55, 3) := by decide +kernel
theorem d_Gp_seal_20 : decode b_Gp_seal 20 = .ok (.athrow, 1) := by decide +kernel
theorem d_Gp_seal_21 : decode b_Gp_seal 21 = .ok (.aload_n 3, 1) := by decide +kernel
theorem d_Gp_seal_22 : decode b_Gp_seal 22 = .ok (.getfield 76, 3) := by decide +kernel
theorem d_Gp_seal_25 : decode b_Gp_seal 25 = .ok (.aload_n 3, 1) := by decide +kernel
theorem d_Gp_seal_26 : decode b_Gp_seal 26 = .ok (.invokevirtual 80, 3) := by decide +kernel
theorem d_Gp_seal_29 : decode b_Gp_seal 29 = .ok (.lcmp, 1) := by decide +kernel
theorem d_Gp_seal_30 : decode b_Gp_seal 30 = .ok (.ifCond .ge 17, 3) := by decide +kernel
theorem d_Gp_seal_33 : decode b_Gp_seal 33 = .ok (.aload_n 0, 1) := by decide +kernel
theorem d_Gp_seal_34 : decode b_Gp_seal 34 = .ok (.getfield 24, 3) := by decide +kernel
theorem d_Gp_seal_37 : decode b_Gp_seal 37 = .ok (.getfield 87, 3) := by decide +kernel
theorem d_Gp_seal_40 : decode b_Gp_seal 40 = .ok (.aload_n 3, 1) := by decide +kernel
theorem d_Gp_seal_41 : decode b_Gp_seal 41 = .ok (.getfield 84, 3) := by decide +kernel
theorem d_Gp_seal_44 : decode b_Gp_seal 44 = .ok (.if_icmp .le 5, 3) := by decide +kernel
theorem d_Gp_seal_47 : decode b_Gp_seal 47 = .ok (.iconst (-1), 1) := by decide +kernel
theorem d_Gp_seal_48 : decode b_Gp_seal 48 = .ok (.ireturn, 1) := by decide +kernel
theorem d_Gp_seal_49 : decode b_Gp_seal 49 = .ok (.aload_n 3, 1) := by decide +kernel
theorem d_Gp_seal_50 : decode b_Gp_seal 50 = .ok (.dup, 1) := by decide +kernel
theorem d_Gp_seal_51 : decode b_Gp_seal 51 = .ok (.getfield 76, 3) := by decide +kernel
theorem d_Gp_seal_54 : decode b_Gp_seal 54 = .ok (.lconst 1, 1) := by decide +kernel
theorem d_Gp_seal_55 : decode b_Gp_seal 55 = .ok (.ladd, 1) := by decide +kernel
theorem d_Gp_seal_56 : decode b_Gp_seal 56 = .ok (.putfield 76, 3) := by decide +kernel
theorem d_Gp_seal_59 : decode b_Gp_seal 59 = .ok (.aload_n 3, 1) := by decide +kernel
theorem d_Gp_seal_60 : decode b_Gp_seal 60 = .ok (.dup, 1) := by decide +kernel
theorem d_Gp_seal_61 : decode b_Gp_seal 61 = .ok (.getfield 84, 3) := by decide +kernel
theorem d_Gp_seal_64 : decode b_Gp_seal 64 = .ok (.aload_n 0, 1) := by decide +kernel
theorem d_Gp_seal_65 : decode b_Gp_seal 65 = .ok (.getfield 24, 3) := by decide +kernel
theorem d_Gp_seal_68 : decode b_Gp_seal 68 = .ok (.getfield 87, 3) := by decide +kernel
theorem d_Gp_seal_71 : decode b_Gp_seal 71 = .ok (.isub, 1) := by decide +kernel
theorem d_Gp_seal_72 : decode b_Gp_seal 72 = .ok (.putfield 84, 3) := by decide +kernel
theorem d_Gp_seal_75 : decode b_Gp_seal 75 = .ok (.aload_n 0, 1) := by decide +kernel
theorem d_Gp_seal_76 : decode b_Gp_seal 76 = .ok (.aload_n 3, 1) := by decide +kernel
theorem d_Gp_seal_77 : decode b_Gp_seal 77 = .ok (.iload_n 2, 1) := by decide +kernel
theorem d_Gp_seal_78 : decode b_Gp_seal 78 = .ok (.invokevirtual 99, 3) := by decide +kernel
theorem d_Gp_seal_81 : decode b_Gp_seal 81 = .ok (.aload_n 0, 1) := by decide +kernel
theorem d_Gp_seal_82 : decode b_Gp_seal 82 = .ok (.getfield 28, 3) := by decide +kernel
theorem d_Gp_seal_85 : decode b_Gp_seal 85 = .ok (.getfield 87, 3) := by decide +kernel
theorem d_Gp_seal_88 : decode b_Gp_seal 88 = .ok (.bipush 16, 2) := by decide +kernel
theorem d_Gp_seal_90 : decode b_Gp_seal 90 = .ok (.isub, 1) := by decide +kernel
theorem d_Gp_seal_91 : decode b_Gp_seal 91 = .ok (.istore 4, 2) := by decide +kernel
theorem d_Gp_seal_93 : decode b_Gp_seal 93 = .ok (.aload_n 3, 1) := by decide +kernel
theorem d_Gp_seal_94 : decode b_Gp_seal 94 = .ok (.aload_n 0, 1) := by decide +kernel
theorem d_Gp_seal_95 : decode b_Gp_seal 95 = .ok (.getfield 28, 3) := by decide +kernel
theorem d_Gp_seal_98 : decode b_Gp_seal 98 = .ok (.bipush 16, 2) := by decide +kernel
theorem d_Gp_seal_100 : decode b_Gp_seal 100 = .ok (.aload_n 3, 1) := by decide +kernel
theorem d_Gp_seal_101 : decode b_Gp_seal 101 = .ok (.getfield 76, 3) := by decide +kernel
theorem d_Gp_seal_104 : decode b_Gp_seal 104 = .ok (.invokevirtual 103, 3) := by decide +kernel
theorem d_Gp_seal_107 : decode b_Gp_seal 107 = .ok (.aload_n 0, 1) := by decide +kernel
theorem d_Gp_seal_108 : decode b_Gp_seal 108 = .ok (.getfield 44, 3) := by decide +kernel
theorem d_Gp_seal_111 : decode b_Gp_seal 111 = .ok (.aload_n 3, 1) := by decide +kernel
theorem d_Gp_seal_112 : decode b_Gp_seal 112 = .ok (.aload_n 3, 1) := by decide +kernel
theorem d_Gp_seal_113 : decode b_Gp_seal 113 = .ok (.getfield 76, 3) := by decide +kernel
theorem d_Gp_seal_116 : decode b_Gp_seal 116 = .ok (.aload_n 0, 1) := by decide +kernel
theorem d_Gp_seal_117 : decode b_Gp_seal 117 = .ok (.getfield 28, 3) := by decide +kernel
theorem d_Gp_seal_120 : decode b_Gp_seal 120 = .ok (.iload 4, 2) := by decide +kernel
theorem d_Gp_seal_122 : decode b_Gp_seal 122 = .ok (.invokevirtual 107, 3) := by decide +kernel
theorem d_Gp_seal_125 : decode b_Gp_seal 125 = .ok (.aload_n 3, 1) := by decide +kernel
theorem d_Gp_seal_126 : decode b_Gp_seal 126 = .ok (.aload_n 0, 1) := by decide +kernel
theorem d_Gp_seal_127 : decode b_Gp_seal 127 = .ok (.getfield 44, 3) := by decide +kernel
theorem d_Gp_seal_130 : decode b_Gp_seal 130 = .ok (.aload_n 3, 1) := by decide +kernel
theorem d_Gp_seal_131 : decode b_Gp_seal 131 = .ok (.getfield 76, 3) := by decide +kernel
theorem d_Gp_seal_134 : decode b_Gp_seal 134 = .ok (.invokevirtual 111, 3) := by decide +kernel
theorem d_Gp_seal_137 : decode b_Gp_seal 137 = .ok (.aload_n 0, 1) := by decide +kernel
theorem d_Gp_seal_138 : decode b_Gp_seal 138 = .ok (.getfield 28, 3) := by decide +kernel
theorem d_Gp_seal_141 : decode b_Gp_seal 141 = .ok (.aload_n 0, 1) := by decide +kernel
theorem d_Gp_seal_142 : decode b_Gp_seal 142 = .ok (.getfield 44, 3) := by decide +kernel
theorem d_Gp_seal_145 : decode b_Gp_seal 145 = .ok (.getfield 115, 3) := by decide +kernel
theorem d_Gp_seal_148 : decode b_Gp_seal 148 = .ok (.bipush 8, 2) := by decide +kernel
theorem d_Gp_seal_150 : decode b_Gp_seal 150 = .ok (.invokevirtual 118, 3) := by decide +kernel
theorem d_Gp_seal_153 : decode b_Gp_seal 153 = .ok (.aload_n 0, 1) := by decide +kernel
theorem d_Gp_seal_154 : decode b_Gp_seal 154 = .ok (.getfield 28, 3) := by decide +kernel
theorem d_Gp_seal_157 : decode b_Gp_seal 157 = .ok (.aload_n 0, 1) := by decide +kernel
theorem d_Gp_seal_158 : decode b_Gp_seal 158 = .ok (.getfield 44, 3) := by decide +kernel
theorem d_Gp_seal_161 : decode b_Gp_seal 161 = .ok (.getfield 122, 3) := by decide +kernel
theorem d_Gp_seal_164 : decode b_Gp_seal 164 = .ok (.bipush 8, 2) := by decide +kernel
theorem d_Gp_seal_166 : decode b_Gp_seal 166 = .ok (.invokevirtual 118, 3) := by decide +kernel
theorem d_Gp_seal_169 : decode b_Gp_seal 169 = .ok (.aload_n 0, 1) := by decide +kernel
theorem d_Gp_seal_170 : decode b_Gp_seal 170 = .ok (.getfield 28, 3) := by decide +kernel
theorem d_Gp_seal_173 : decode b_Gp_seal 173 = .ok (.getfield 87, 3) := by decide +kernel
theorem d_Gp_seal_176 : decode b_Gp_seal 176 = .ok (.ireturn, 1) := by decide +kernel
theorem d_Gp_size_0 : decode b_Gp_size 0 = .ok (.aload_n 0, 1) := by decide +kernel
theorem d_Gp_size_1 : decode b_Gp_size 1 = .ok (.getfield 28, 3) := by decide +kernel
theorem d_Gp_size_4 : decode b_Gp_size 4 = .ok (.getfield 87, 3) := by decide +kernel
theorem d_Gp_size_7 : decode b_Gp_size 7 = .ok (.ireturn, 1) := by decide +kernel
theorem d_Gp_packet_0 : decode b_Gp_packet 0 = .ok (.aload_n 0, 1) := by decide +kernel
theorem d_Gp_packet_1 : decode b_Gp_packet 1 = .ok (.getfield 28, 3) := by decide +kernel
theorem d_Gp_packet_4 : decode b_Gp_packet 4 = .ok (.iload_n 1, 1) := by decide +kernel
theorem d_Gp_packet_5 : decode b_Gp_packet 5 = .ok (.invokevirtual 125, 3) := by decide +kernel
theorem d_Gp_packet_8 : decode b_Gp_packet 8 = .ok (.lreturn, 1) := by decide +kernel
theorem d_Gp_spoil_0 : decode b_Gp_spoil 0 = .ok (.iload_n 1, 1) := by decide +kernel
theorem d_Gp_spoil_1 : decode b_Gp_spoil 1 = .ok (.ifCond .lt 14, 3) := by decide +kernel
theorem d_Gp_spoil_4 : decode b_Gp_spoil 4 = .ok (.iload_n 1, 1) := by decide +kernel
theorem d_Gp_spoil_5 : decode b_Gp_spoil 5 = .ok (.aload_n 0, 1) := by decide +kernel
theorem d_Gp_spoil_6 : decode b_Gp_spoil 6 = .ok (.getfield 28, 3) := by decide +kernel
theorem d_Gp_spoil_9 : decode b_Gp_spoil 9 = .ok (.getfield 87, 3) := by decide +kernel
theorem d_Gp_spoil_12 : decode b_Gp_spoil 12 = .ok (.if_icmp .lt 11, 3) := by decide +kernel
theorem d_Gp_spoil_15 : decode b_Gp_spoil 15 = .ok (.new 129, 3) := by decide +kernel
theorem d_Gp_spoil_18 : decode b_Gp_spoil 18 = .ok (.dup, 1) := by decide +kernel
theorem d_Gp_spoil_19 : decode b_Gp_spoil 19 = .ok (.invokespecial 131, 3) := by decide +kernel
theorem d_Gp_spoil_22 : decode b_Gp_spoil 22 = .ok (.athrow, 1) := by decide +kernel
theorem d_Gp_spoil_23 : decode b_Gp_spoil 23 = .ok (.iload_n 2, 1) := by decide +kernel
theorem d_Gp_spoil_24 : decode b_Gp_spoil 24 = .ok (.invokestatic 96, 3) := by decide +kernel
theorem d_Gp_spoil_27 : decode b_Gp_spoil 27 = .ok (.ifCond .ne 11, 3) := by decide +kernel
theorem d_Gp_spoil_30 : decode b_Gp_spoil 30 = .ok (.new 53, 3) := by decide +kernel
theorem d_Gp_spoil_33 : decode b_Gp_spoil 33 = .ok (.dup, 1) := by decide +kernel
theorem d_Gp_spoil_34 : decode b_Gp_spoil 34 = .ok (.invokespecial 55, 3) := by decide +kernel
theorem d_Gp_spoil_37 : decode b_Gp_spoil 37 = .ok (.athrow, 1) := by decide +kernel
theorem d_Gp_spoil_38 : decode b_Gp_spoil 38 = .ok (.aload_n 0, 1) := by decide +kernel
theorem d_Gp_spoil_39 : decode b_Gp_spoil 39 = .ok (.getfield 28, 3) := by decide +kernel
theorem d_Gp_spoil_42 : decode b_Gp_spoil 42 = .ok (.iload_n 1, 1) := by decide +kernel
theorem d_Gp_spoil_43 : decode b_Gp_spoil 43 = .ok (.i2l, 1) := by decide +kernel
theorem d_Gp_spoil_44 : decode b_Gp_spoil 44 = .ok (.invokevirtual 132, 3) := by decide +kernel
theorem d_Gp_spoil_47 : decode b_Gp_spoil 47 = .ok (.istore_n 3, 1) := by decide +kernel
theorem d_Gp_spoil_48 : decode b_Gp_spoil 48 = .ok (.aload_n 0, 1) := by decide +kernel
theorem d_Gp_spoil_49 : decode b_Gp_spoil 49 = .ok (.getfield 28, 3) := by decide +kernel
theorem d_Gp_spoil_52 : decode b_Gp_spoil 52 = .ok (.iload_n 1, 1) := by decide +kernel
theorem d_Gp_spoil_53 : decode b_Gp_spoil 53 = .ok (.iload_n 2, 1) := by decide +kernel
theorem d_Gp_spoil_54 : decode b_Gp_spoil 54 = .ok (.invokevirtual 136, 3) := by decide +kernel
theorem d_Gp_spoil_57 : decode b_Gp_spoil 57 = .ok (.iload_n 3, 1) := by decide +kernel
theorem d_Gp_spoil_58 : decode b_Gp_spoil 58 = .ok (.ireturn, 1) := by decide +kernel
theorem d_Gp_cut_0 : decode b_Gp_cut 0 = .ok (.iload_n 1, 1) := by decide +kernel
theorem d_Gp_cut_1 : decode b_Gp_cut 1 = .ok (.ifCond .lt 14, 3) := by decide +kernel
theorem d_Gp_cut_4 : decode b_Gp_cut 4 = .ok (.iload_n 1, 1) := by decide +kernel
theorem d_Gp_cut_5 : decode b_Gp_cut 5 = .ok (.aload_n 0, 1) := by decide +kernel
theorem d_Gp_cut_6 : decode b_Gp_cut 6 = .ok (.getfield 28, 3) := by decide +kernel
theorem d_Gp_cut_9 : decode b_Gp_cut 9 = .ok (.getfield 87, 3) := by decide +kernel
theorem d_Gp_cut_12 : decode b_Gp_cut 12 = .ok (.if_icmp .le 11, 3) := by decide +kernel
theorem d_Gp_cut_15 : decode b_Gp_cut 15 = .ok (.new 53, 3) := by decide +kernel
theorem d_Gp_cut_18 : decode b_Gp_cut 18 = .ok (.dup, 1) := by decide +kernel
theorem d_Gp_cut_19 : decode b_Gp_cut 19 = .ok (.invokespecial 55, 3) := by decide +kernel
theorem d_Gp_cut_22 : decode b_Gp_cut 22 = .ok (.athrow, 1) := by decide +kernel
theorem d_Gp_cut_23 : decode b_Gp_cut 23 = .ok (.aload_n 0, 1) := by decide +kernel
theorem d_Gp_cut_24 : decode b_Gp_cut 24 = .ok (.getfield 28, 3) := by decide +kernel
theorem d_Gp_cut_27 : decode b_Gp_cut 27 = .ok (.iload_n 1, 1) := by decide +kernel
theorem d_Gp_cut_28 : decode b_Gp_cut 28 = .ok (.invokevirtual 93, 3) := by decide +kernel
theorem d_Gp_cut_31 : decode b_Gp_cut 31 = .ok (.return_, 1) := by decide +kernel
theorem d_Gp_keep_0 : decode b_Gp_keep 0 = .ok (.iload_n 1, 1) := by decide +kernel
theorem d_Gp_keep_1 : decode b_Gp_keep 1 = .ok (.invokestatic 140, 3) := by decide +kernel
theorem d_Gp_keep_4 : decode b_Gp_keep 4 = .ok (.ifCond .ne 11, 3) := by decide +kernel
theorem d_Gp_keep_7 : decode b_Gp_keep 7 = .ok (.new 129, 3) := by decide +kernel
theorem d_Gp_keep_10 : decode b_Gp_keep 10 = .ok (.dup, 1) := by decide +kernel
theorem d_Gp_keep_11 : decode b_Gp_keep 11 = .ok (.invokespecial 131, 3) := by decide +kernel
theorem d_Gp_keep_14 : decode b_Gp_keep 14 = .ok (.athrow, 1) := by decide +kernel
theorem d_Gp_keep_15 : decode b_Gp_keep 15 = .ok (.aload_n 0, 1) := by decide +kernel
theorem d_Gp_keep_16 : decode b_Gp_keep 16 = .ok (.getfield 31, 3) := by decide +kernel
theorem d_Gp_keep_19 : decode b_Gp_keep 19 = .ok (.iload_n 1, 1) := by decide +kernel
theorem d_Gp_keep_20 : decode b_Gp_keep 20 = .ok (.aaload, 1) := by decide +kernel
theorem d_Gp_keep_21 : decode b_Gp_keep 21 = .ok (.aload_n 0, 1) := by decide +kernel
theorem d_Gp_keep_22 : decode b_Gp_keep 22 = .ok (.getfield 28, 3) := by decide +kernel
theorem d_Gp_keep_25 : decode b_Gp_keep 25 = .ok (.invokevirtual 143, 3) := by decide +kernel
theorem d_Gp_keep_28 : decode b_Gp_keep 28 = .ok (.return_, 1) := by decide +kernel
theorem d_Gp_bring_0 : decode b_Gp_bring 0 = .ok (.iload_n 1, 1) := by decide +kernel
theorem d_Gp_bring_1 : decode b_Gp_bring 1 = .ok (.invokestatic 140, 3) := by decide +kernel
theorem d_Gp_bring_4 : decode b_Gp_bring 4 = .ok (.ifCond .ne 11, 3) := by decide +kernel
theorem d_Gp_bring_7 : decode b_Gp_bring 7 = .ok (.new 129, 3) := by decide +kernel
theorem d_Gp_bring_10 : decode b_Gp_bring 10 = .ok (.dup, 1) := by decide +kernel
theorem d_Gp_bring_11 : decode b_Gp_bring 11 = .ok (.invokespecial 131, 3) := by decide +kernel
theorem d_Gp_bring_14 : decode b_Gp_bring 14 = .ok (.athrow, 1) := by decide +kernel
theorem d_Gp_bring_15 : decode b_Gp_bring 15 = .ok (.aload_n 0, 1) := by decide +kernel
theorem d_Gp_bring_16 : decode b_Gp_bring 16 = .ok (.getfield 31, 3) := by decide +kernel
end
section
/-! a world by addresses: at most one kind an address -/
abbrev gw_D : Type := va_G × (Nat → ClassId)
abbrev gw_G : Type := Nat → Option (va_E → Prop)
def gw_up (G : gw_G) (a : Nat) (K : va_E → Prop) : gw_G := fun q => if q = a then some K else G q
theorem gw_up_s {G : gw_G} {a : Nat} {K : va_E → Prop} : gw_up G a K a = some K := by simp [gw_up]
theorem gw_up_n {G : gw_G} {a b : Nat} {K : va_E → Prop} (h : b ≠ a) : gw_up G a K b = G b := by simp [gw_up, h]
theorem gw_up_o {G : gw_G} {a b : Nat} {K K' : va_E → Prop} (h : G b = some K') (hn : G a = none) : gw_up G a K b = some K' := by
  rw [gw_up_n (fun q => by subst q; rw [h] at hn; cases hn)]; exact h
def gw_at (D : gw_D) (a : Nat) (e : va_E) (H : Heap) : Prop := va_at D.1 gcl (a, e) H
/-- H is Hs with more behind it; every address with a kind holds what the kind says -/
def gw_P (D : gw_D) (Hs : Heap) (G : gw_G) (H : Heap) : Prop := Hs.size ≤ H.size ∧ (∀ q : Nat, q < Hs.size → H[q]? = Hs[q]?) ∧ ∀ (a : Nat) (K : va_E → Prop), G a = some K → Hs.size ≤ a ∧ ∃ e : va_E, K e ∧ gw_at D a e H
def gw_A (Hs : Heap) : Nat → Prop := fun q => Hs.size ≤ q
def gw_I (D : gw_D) (Hs : Heap) (G : gw_G) (H0 H : Heap) (locs : List Loc) : Prop := gw_P D Hs G H ∧ va_S (gw_A Hs) H0 H locs
abbrev gw_ty (D : gw_D) : List (ClassId × FieldType) := [(D.2 0, .int), (D.2 1, .byte), (D.2 2, .boolean), (D.2 3, .long), (D.2 4, .object R_As), (D.2 5, .object R_Ro)]
/-- what the tables say, and the static table of the cipher: it lies in Hs -/
def gw_K (D : gw_D) (Hs : Heap) (U : State) : Prop := va_K D.1 gcl (gw_ty D) U ∧ va_AO R_As U ∧ va_AO R_Ro U ∧
  va_Nw (.methodLinkNest R_Gp 43 y_Ch_init "GuardedPackets") U ∧ va_Nw (.methodLinkNest R_Gp 48 y_As_init "GuardedPackets") U ∧ va_Nw (.methodLinkNest R_As 9 y_Ci_init "GuardedPackets") U ∧ va_Nw (.methodLinkNest R_As 18 y_Wi_init "GuardedPackets") U ∧
  ∃ (t : Nat) (f : Nat → Int32), va_Z "GuardedPackets$Cipher" "SUB" "[I" (.ref t) (gw_A Hs) U Hs ∧ va_T .int t 256 (fun j => .int (f j)) (gw_A Hs) U Hs
theorem gw_K.moved {D : gw_D} {Hs : Heap} {u U : State} (hW : u.WarmedH U.vm) (h : gw_K D Hs u) : gw_K D Hs U := by
  obtain ⟨h1, h2, h3, h4, h5, h6, h7, t, f, h8, h9⟩ := h
  exact ⟨h1.moved hW.alike, h2.moved hW.alike, h3.moved hW.alike, h4.warmM hW, h5.warmM hW, h6.warmM hW, h7.warmM hW, t, f, h8.moved hW.alike, h9.moved hW.alike⟩
theorem gw_K.same {D : gw_D} {Hs : Heap} {u U : State} (e : u.vm = U.vm) (h : gw_K D Hs u) : gw_K D Hs U := by
  have a : u.vm.Alike U.vm := by rw [← e]; exact Vm.Alike.refl u.vm
  obtain ⟨h1, h2, h3, h4, h5, h6, h7, t, f, h8, h9⟩ := h
  exact ⟨h1.moved a, h2.moved a, h3.moved a, h4.same rfl e, h5.same rfl e, h6.same rfl e, h7.same rfl e, t, f, h8.moved a, h9.moved a⟩
/-- a contract's start and ends -/
def gw_Pc (D : gw_D) (Hs : Heap) (G : gw_G) (av : List Value) : Array Value → State → Prop := va_Pc av (fun U => gw_P D Hs G U.heap ∧ gw_K D Hs U)
theorem gw_Pc.blind {D : gw_D} {Hs : Heap} {G : gw_G} {av : List Value} : FrameBlind (gw_Pc D Hs G av) := fun a U g mk q => ⟨q.1, q.2.1, q.2.2.same (U := U.calling g mk a) rfl⟩
abbrev gw_Bq (D : gw_D) (Hs : Heap) : gw_G → State → Prop := fun G t => gw_P D Hs G t.heap
abbrev gw_Qv (D : gw_D) (Hs : Heap) (post : gw_G → Prop) := va_Qv post (gw_Bq D Hs) (gw_A Hs)
abbrev gw_Qi (D : gw_D) (Hs : Heap) (post : Int32 → gw_G → Prop) := va_Qi post (gw_Bq D Hs) (gw_A Hs)
abbrev gw_Ql (D : gw_D) (Hs : Heap) (post : Int64 → gw_G → Prop) := va_Ql post (gw_Bq D Hs) (gw_A Hs)
abbrev gw_Qr (D : gw_D) (Hs : Heap) (post : Nat → gw_G → Prop) := va_Qr (S := gw_G) (fun _ => True) (fun G a t => gw_P D Hs G t.heap ∧ post a G) (gw_A Hs)
theorem gw_at.lt {D : gw_D} {a : Nat} {e : va_E} {H : Heap} (h : gw_at D a e H) : a < H.size := va_at.lt (q := (a, e)) h
theorem gw_P.none {D : gw_D} {Hs : Heap} {G : gw_G} {H : Heap} (h : gw_P D Hs G H) : G H.size = none := by
  cases hg : G H.size with
  | none => rfl
  | some K =>
    obtain ⟨-, e, -, q⟩ := h.2.2 _ K hg
    exact absurd q.lt (Nat.lt_irrefl _)
/-- one cell written -/
theorem gw_P.put {D : gw_D} {Hs : Heap} {G : gw_G} {H H1 : Heap} {a : Nat} {K K' : va_E → Prop} {e : va_E} (h : gw_P D Hs G H) (hG : G a = some K) (he : gw_at D a e H1) (hK : K' e) (z : H1.size = H.size) (oq : ∀ q : Nat, q ≠ a → H1[q]? = H[q]?) : gw_P D Hs (gw_up G a K') H1 := by
  have ha := (h.2.2 a K hG).1
  refine ⟨by rw [z]; exact h.1, fun q hq => by rw [oq q (by omega)]; exact h.2.1 q hq, fun b Kb hb => ?_⟩
  by_cases hab : b = a
  · subst hab
    rw [gw_up_s] at hb
    cases hb
    exact ⟨ha, e, hK, he⟩
  · rw [gw_up_n hab] at hb
    obtain ⟨h1, e1, h2, h3⟩ := h.2.2 b Kb hb
    exact ⟨h1, e1, h2, va_at.kept (q := (b, e1)) h3 (oq b hab)⟩
theorem gw_up_id {G : gw_G} {a : Nat} {K : va_E → Prop} (hG : G a = some K) : gw_up G a K = G := by
  funext q
  by_cases h : q = a
  · subst h; rw [gw_up_s, hG]
  · rw [gw_up_n h]
/-- one cell made -/
theorem gw_P.new {D : gw_D} {Hs : Heap} {G : gw_G} {H H1 : Heap} {K' : va_E → Prop} {e : va_E} (h : gw_P D Hs G H) (he : gw_at D H.size e H1) (hK : K' e) (z : H1.size = H.size + 1) (oq : ∀ q : Nat, q < H.size → H1[q]? = H[q]?) : gw_P D Hs (gw_up G H.size K') H1 := by
  refine ⟨by have := h.1; omega, fun q hq => by rw [oq q (Nat.lt_of_lt_of_le hq h.1)]; exact h.2.1 q hq, fun b Kb hb => ?_⟩
  by_cases hab : b = H.size
  · subst hab
    rw [gw_up_s] at hb
    cases hb
    exact ⟨h.1, e, hK, he⟩
  · rw [gw_up_n hab] at hb
    obtain ⟨h1, e1, h2, h3⟩ := h.2.2 b Kb hb
    exact ⟨h1, e1, h2, va_at.kept (q := (b, e1)) h3 (oq b h3.lt)⟩
/-- a world that asks less -/
theorem gw_P.weak {D : gw_D} {Hs : Heap} {G G1 : gw_G} {H : Heap} (h : gw_P D Hs G1 H) (hw : ∀ (a : Nat) (K : va_E → Prop), G a = some K → ∃ K1, G1 a = some K1 ∧ ∀ e, K1 e → K e) : gw_P D Hs G H := by
  refine ⟨h.1, h.2.1, fun a K ha => ?_⟩
  obtain ⟨K1, h1, h2⟩ := hw a K ha
  obtain ⟨q1, e, q2, q3⟩ := h.2.2 a K1 h1
  exact ⟨q1, e, h2 e q2, q3⟩
theorem gw_P.opn {D : gw_D} {Hs : Heap} {G : gw_G} {H : Heap} {a : Nat} {K : va_E → Prop} (h : gw_P D Hs G H) (hG : G a = some K) : ∃ e, K e ∧ gw_P D Hs (gw_up G a (fun x => x = e)) H := by
  obtain ⟨q1, e, q2, q3⟩ := h.2.2 a K hG
  refine ⟨e, q2, h.1, h.2.1, fun b Kb hb => ?_⟩
  by_cases hab : b = a
  · subst hab
    rw [gw_up_s] at hb
    cases hb
    exact ⟨q1, e, rfl, q3⟩
  · rw [gw_up_n hab] at hb
    exact h.2.2 b Kb hb
theorem gw_P.close {D : gw_D} {Hs : Heap} {G : gw_G} {H : Heap} {a : Nat} {K K' : va_E → Prop} (h : gw_P D Hs (gw_up G a K') H) (hG : G a = some K) (hk : ∀ e, K' e → K e) : gw_P D Hs G H := by
  refine h.weak (fun b Kb hb => ?_)
  by_cases hab : b = a
  · subst hab
    rw [hG] at hb
    cases hb
    exact ⟨K', gw_up_s, hk⟩
  · exact ⟨Kb, by rw [gw_up_n hab]; exact hb, fun _ h => h⟩
/-! kinds -/
def kx (e0 : va_E) : va_E → Prop := fun e => e = e0
/-- an array of n ints (bytes, booleans) that all have P -/
def kA (D : gw_D) (t n : Nat) (P : Int32 → Prop) : va_E → Prop := fun e => ∃ f : Nat → Int32, (∀ j, j < n → P (f j)) ∧ e = .inl (D.2 t, n, .inl f)
def kL (D : gw_D) (n : Nat) (P : Int64 → Prop) : va_E → Prop := fun e => ∃ f : Nat → Int64, (∀ j, j < n → P (f j)) ∧ e = .inl (D.2 3, n, .inr (.inl f))
def kR (D : gw_D) (t n : Nat) (P : Nat → Nat → Prop) : va_E → Prop := fun e => ∃ f : Nat → Option Nat, (∀ j, j < n → ∃ b, f j = some b ∧ P j b) ∧ e = .inl (D.2 t, n, .inr (.inr (.inr (.inr f))))
section GWR
variable {p : Program} {l : Launch} {e : Env} {R : Room} {s : State} {m : MethodId} {args : Array Value} {below : List Frame} {meth : Method} {c : Code} {H H0 : Heap} {locs : List Loc} {cells slots : Nat} {Q : State → Prop}
variable {cc : ByteArray} {pc nL : Nat} {ls : Array Slot} {rest : List Value} {a : Nat} {own : String} {D : gw_D} {Hs : Heap} {G : gw_G} {K : va_E → Prop}
theorem gw_one {ev : va_E} (h : gw_at D a ev H) : va_P D.1 gcl [(a, ev)] H := fun k q hk => by
  have hz : k < 1 := (List.getElem?_eq_some_iff.mp hk).1
  rw [show k = 0 by omega] at hk
  cases hk
  exact h
/-- getfield -/
theorem gw_get (M : CallFix p m c cc nL s args tb own) (hK : gw_K D Hs s) (hI : gw_I D Hs G H0 H locs) (hG : G a = some K) {C : String} {T : u_T} {N ci index : Nat} (hin : ∀ w ∈ u_ws C T N, w ∈ tb) (hc : gcl[ci]? = some (C, T, N)) (k : Nat) (hk : k < N) {fn fd : String} (hlink : Cond.fieldLink own index C fn fd ∈ tb) (hT : (T k) = (C, fn, fd, (T k).2.2.2))
    {Pv : Value → Prop} (hv : ∀ x, K x → ∃ fs v, x = .inr (ci, fs) ∧ fs[k]? = some v ∧ Pv v) (hdg : decode cc pc = .ok (.getfield index, 3))
    (kk : ∀ v, Pv v → W p l e R s m args below meth c H locs cells slots Q (F0 m (pc + 3) ls (v :: rest))) : W p l e R s m args below meth c H locs cells slots Q (F0 m pc ls (.ref a :: rest)) := by
  obtain ⟨hx, hb, -, hown, hts⟩ := M
  obtain ⟨-, x, hx1, hx2⟩ := hI.1.2.2 a K hG
  obtain ⟨fs, v, rfl, h2, h3⟩ := hv x hx1
  have e1 : (T k).2.1 = fn := by rw [hT]
  have e2 : (T k).2.2.1 = fd := by rw [hT]
  have e0 : (T k).1 = C := by rw [hT]
  refine va_get (D := D.1) (ci := ci) (v := v) (ref := C) hx hb hts hin hown hK.1 (gw_one hx2) 0 rfl hc k hk (by rw [e1, e2]; exact hts _ hlink) (fun z h => by rw [e0] at h; exact h) h2 hdg (kk v h3)
/-- putfield -/
theorem gw_put (M : CallFix p m c cc nL s args tb own) (hK : gw_K D Hs s) (hI : gw_I D Hs G H0 H locs) (hG : G a = some K) {C : String} {T : u_T} {N ci index : Nat} (hin : ∀ w ∈ u_ws C T N, w ∈ tb) (ty0 : Nat → FieldType) (hty : ∀ k, k < N → parseFieldDescriptor (T k).2.2.1 = some (ty0 k)) (hnm : ∀ a, a < N → ∀ b, b < N → a ≠ b → (T a).2.1 ≠ (T b).2.1) (hc : gcl[ci]? = some (C, T, N)) (k : Nat) (hk : k < N) {fn fd : String} (hlink : Cond.fieldLink own index C fn fd ∈ tb) (hT : T k = (C, fn, fd, false))
    {v : Value} (hn : narrow (ty0 k) v = v) (hfit : fits (ty0 k) v = true) (K' : va_E → Prop) (hv : ∀ x, K x → ∃ fs, x = .inr (ci, fs) ∧ k < fs.length ∧ K' (.inr (ci, fs.set k v))) (hdg : decode cc pc = .ok (.putfield index, 3))
    (kk : ∀ (H1 : Heap) (locs1 : List Loc), gw_I D Hs (gw_up G a K') H0 H1 locs1 → W p l e R s m args below meth c H1 locs1 cells slots Q (F0 m (pc + 3) ls rest)) : W p l e R s m args below meth c H locs cells slots Q (F0 m pc ls (v :: .ref a :: rest)) := by
  obtain ⟨hx, hb, -, hown, hts⟩ := M
  have hap := va_apart (own := own) hts hin ty0 hty hnm hK.1 hc
  obtain ⟨hA, x, hx1, hx2⟩ := hI.1.2.2 a K hG
  obtain ⟨fs, rfl, hl, h3⟩ := hv x hx1
  obtain ⟨r, h1, cell, q1, q2, q3, q4⟩ := hx2
  have hr : r = (C, T, N) := Option.some.inj (h1.symm.trans hc)
  subst hr
  obtain ⟨hS, hfc, kC, hkC, hkind⟩ := hK.1.1 ci _ hc
  obtain ⟨cf, kf, fi, f, hi, hsl⟩ := hS k hk
  have hlay := hts _ (hin _ (u_in_lay hk))
  have hd := hty k hk
  have e1 : (T k).2.1 = fn := by rw [hT]
  have e2 : (T k).2.2.1 = fd := by rw [hT]
  have e0 : (T k).1 = C := by rw [hT]
  have hfin : (T k).2.2.2 = false := by rw [hT]
  unfold u_lay at hlay
  rw [if_neg (by rw [hfin]; decide)] at hlay
  have hst := (u_facts hfc hkC (u_lays hts hin hk) hi).1
  have h6 := u_store hfc hkC hkind hlay hi hd hn hfit
  rw [e0, e1, e2] at hi
  refine W.putK hx hb (f := f) ⟨hown, hts _ hlink, ⟨_, _, _, hi⟩, hst⟩ (by rw [q2]; exact h6) q1 q3 (by rw [hsl]; exact k2_hasslot (q4 k hk)) rfl rfl hdg fun H' g1 g2 g3 => ?_
  rw [hsl] at g1 ⊢
  refine kk H' _ ⟨hI.1.put hG (e := .inr (ci, fs.set k v)) ⟨_, hc, t_OB.to (V := updV (vp_V fs) k v) ⟨_, g1, q2, q3, t_set q4 hap hk v⟩ (fun j _ => vp_updV_set hl v j)⟩ h3 g2 g3, hI.2.put g2 g3 hA⟩
/-- putfield of a final field, in a constructor -/
theorem gw_putF (M : CallFix p m c cc nL s args tb own) (hK : gw_K D Hs s) (hI : gw_I D Hs G H0 H locs) (hG : G a = some K) {T : u_T} {N ci index : Nat} (hin : ∀ w ∈ u_ws own T N, w ∈ tb) (ty0 : Nat → FieldType) (hty : ∀ k, k < N → parseFieldDescriptor (T k).2.2.1 = some (ty0 k)) (hnm : ∀ a, a < N → ∀ b, b < N → a ≠ b → (T a).2.1 ≠ (T b).2.1) (hc : gcl[ci]? = some (own, T, N)) (k : Nat) (hk : k < N) {fn fd : String} (hlink : Cond.fieldLink own index own fn fd ∈ tb) (hT : T k = (own, fn, fd, true)) (hin2 : meth.name = "<init>")
    {v : Value} (hn : narrow (ty0 k) v = v) (hfit : fits (ty0 k) v = true) (K' : va_E → Prop) (hv : ∀ x, K x → ∃ fs, x = .inr (ci, fs) ∧ k < fs.length ∧ K' (.inr (ci, fs.set k v))) (hdg : decode cc pc = .ok (.putfield index, 3))
    (kk : ∀ (H1 : Heap) (locs1 : List Loc), gw_I D Hs (gw_up G a K') H0 H1 locs1 → W p l e R s m args below meth c H1 locs1 cells slots Q (F0 m (pc + 3) ls rest)) : W p l e R s m args below meth c H locs cells slots Q (F0 m pc ls (v :: .ref a :: rest)) := by
  obtain ⟨hx, hb, -, hown, hts⟩ := M
  have hap := va_apart (own := own) hts hin ty0 hty hnm hK.1 hc
  obtain ⟨hA, x, hx1, hx2⟩ := hI.1.2.2 a K hG
  obtain ⟨fs, rfl, hl, h3⟩ := hv x hx1
  obtain ⟨r, h1, cell, q1, q2, q3, q4⟩ := hx2
  have hr : r = (own, T, N) := Option.some.inj (h1.symm.trans hc)
  subst hr
  obtain ⟨hS, hfc, kC, hkC, hkind⟩ := hK.1.1 ci _ hc
  obtain ⟨cf, kf, fi, f, hi, hsl⟩ := hS k hk
  have hlay := hts _ (hin _ (u_in_lay hk))
  have hd := hty k hk
  have e1 : (T k).2.1 = fn := by rw [hT]
  have e2 : (T k).2.2.1 = fd := by rw [hT]
  have e0 : (T k).1 = own := by rw [hT]
  have hfin : (T k).2.2.2 = true := by rw [hT]
  unfold u_lay at hlay
  rw [if_pos hfin] at hlay
  have hst := (u_facts hfc hkC (u_lays hts hin hk) hi).1
  have hcf : m.cls = cf := by
    obtain ⟨_, _, c', _, _, _, -, -, hf', -, -, -, hown2, -⟩ := Cond.laysFinal_spec hlay
    have g1 : c' = cf := by have := hi.symm.trans hf'; simp at this; exact this.1.symm
    rw [e0] at hown2
    rw [← g1]; exact Option.some.inj (hown.symm.trans hown2)
  have h6 := u_fits hfc hkC hkind (Or.inr hlay) hi hd hn hfit
  rw [e0, e1, e2] at hi
  refine W.putFinK hx hb hown (hts _ hlink) hi hst hcf hin2 (by rw [q2]; exact h6) q1 q3 (by rw [hsl]; exact k2_hasslot (q4 k hk)) rfl rfl hdg fun H' g1 g2 g3 => ?_
  rw [hsl] at g1 ⊢
  refine kk H' _ ⟨hI.1.put hG (e := .inr (ci, fs.set k v)) ⟨_, hc, t_OB.to (V := updV (vp_V fs) k v) ⟨_, g1, q2, q3, t_set q4 hap hk v⟩ (fun j _ => vp_updV_set hl v j)⟩ h3 g2 g3, hI.2.put g2 g3 hA⟩
end GWR
end
section
section GWA
variable {p : Program} {l : Launch} {e : Env} {R : Room} {s : State} {m : MethodId} {args : Array Value} {below : List Frame} {meth : Method} {c : Code} {H H0 : Heap} {locs : List Loc} {cells slots : Nat} {Q : State → Prop}
variable {cc : ByteArray} {pc nL : Nat} {ls : Array Slot} {rest : List Value} {a : Nat} {own : String} {D : gw_D} {Hs : Heap} {G : gw_G} {K : va_E → Prop}
theorem gw_iald (M : CallFix p m c cc nL s args tb own) (hK : gw_K D Hs s) (hI : gw_I D Hs G H0 H locs) {n : Nat} {P : Int32 → Prop} (hG : G a = some (kA D 0 n P)) {i : Int32} (hin : vp_in i n) (hdg : decode cc pc = .ok (.iaload, 1))
    (kk : ∀ x : Int32, P x → W p l e R s m args below meth c H locs cells slots Q (F0 m (pc + 1) ls (.int x :: rest))) : W p l e R s m args below meth c H locs cells slots Q (F0 m pc ls (.int i :: .ref a :: rest)) := by
  obtain ⟨-, x, ⟨f, hf, rfl⟩, hx2⟩ := hI.1.2.2 a _ hG
  have hlt : i.toNatClampNeg < n := Nat.not_le.mp fun q => hin (Or.inr q)
  exact va_iald M.1 M.2.1 hK.1 (gw_one hx2) 0 0 rfl rfl hin hdg (kk _ (hf _ hlt))
theorem gw_ialdx (M : CallFix p m c cc nL s args tb own) (hK : gw_K D Hs s) (hI : gw_I D Hs G H0 H locs) {n : Nat} {f : Nat → Int32} (hG : G a = some (kx (.inl (D.2 0, n, .inl f)))) {i : Int32} (hin : vp_in i n) (hdg : decode cc pc = .ok (.iaload, 1))
    (kk : W p l e R s m args below meth c H locs cells slots Q (F0 m (pc + 1) ls (.int (f i.toNatClampNeg) :: rest))) : W p l e R s m args below meth c H locs cells slots Q (F0 m pc ls (.int i :: .ref a :: rest)) := by
  obtain ⟨-, x, rfl, hx2⟩ := hI.1.2.2 a _ hG
  exact va_iald M.1 M.2.1 hK.1 (gw_one hx2) 0 0 rfl rfl hin hdg kk
theorem gw_iast0 (M : CallFix p m c cc nL s args tb own) (hK : gw_K D Hs s) (hI : gw_I D Hs G H0 H locs) {n : Nat} {f : Nat → Int32} (hG : G a = some K) (hat : gw_at D a (.inl (D.2 0, n, .inl f)) H) {i x : Int32} (hin : vp_in i n) (K' : va_E → Prop) (hk : K' (.inl (D.2 0, n, .inl (upd f i.toNatClampNeg x)))) (hdg : decode cc pc = .ok (.iastore, 1))
    (kk : ∀ (H1 : Heap) (locs1 : List Loc), gw_I D Hs (gw_up G a K') H0 H1 locs1 → W p l e R s m args below meth c H1 locs1 cells slots Q (F0 m (pc + 1) ls rest)) : W p l e R s m args below meth c H locs cells slots Q (F0 m pc ls (.int x :: .int i :: .ref a :: rest)) := by
  have hA := (hI.1.2.2 a _ hG).1
  refine W.iast M.1 M.2.1 hat ((hK.1.2 0 _ rfl).1 n (fun j => .int (f j))) (fun q => by cases q) (by show ¬ (i < 0 ∨ (arrV _ _ _).slots.size ≤ _); rw [arrV_size]; exact hin) rfl rfl hdg fun H1 e1 z oq => ?_
  refine kk H1 _ ⟨hI.1.put hG (e := .inl (D.2 0, n, .inl (upd f i.toNatClampNeg x))) ?_ hk z oq, hI.2.put z oq hA⟩
  show H1[a]? = some (vp_cell _ _)
  rw [e1]
  rw [vp_cell_i, vp_cell_i, arrV_store]
  congr 2
  funext q
  by_cases hq : q = i.toNatClampNeg
  · subst hq
    simp [updV, upd]
    try rfl
  · simp [updV, upd, hq]
theorem gw_iast (M : CallFix p m c cc nL s args tb own) (hK : gw_K D Hs s) (hI : gw_I D Hs G H0 H locs) {n : Nat} {P : Int32 → Prop} (hG : G a = some (kA D 0 n P)) {i x : Int32} (hin : vp_in i n) (hP : P x) (hdg : decode cc pc = .ok (.iastore, 1))
    (kk : ∀ (H1 : Heap) (locs1 : List Loc), gw_I D Hs G H0 H1 locs1 → W p l e R s m args below meth c H1 locs1 cells slots Q (F0 m (pc + 1) ls rest)) : W p l e R s m args below meth c H locs cells slots Q (F0 m pc ls (.int x :: .int i :: .ref a :: rest)) := by
  obtain ⟨-, y, ⟨f, hf, rfl⟩, hx2⟩ := hI.1.2.2 a _ hG
  refine gw_iast0 M hK hI hG hx2 hin (kA D 0 n P) ⟨_, fun j hj => ?_, rfl⟩ hdg (fun H1 l1 h => kk H1 l1 (by rw [gw_up_id hG] at h; exact h))
  by_cases hq : j = i.toNatClampNeg
  · subst hq; simpa [upd] using hP
  · simpa [upd, hq] using hf j hj
theorem gw_iastx (M : CallFix p m c cc nL s args tb own) (hK : gw_K D Hs s) (hI : gw_I D Hs G H0 H locs) {n : Nat} {f : Nat → Int32} (hG : G a = some (kx (.inl (D.2 0, n, .inl f)))) {i x : Int32} (hin : vp_in i n) (hdg : decode cc pc = .ok (.iastore, 1))
    (kk : ∀ (H1 : Heap) (locs1 : List Loc), gw_I D Hs (gw_up G a (kx (.inl (D.2 0, n, .inl (upd f i.toNatClampNeg x))))) H0 H1 locs1 → W p l e R s m args below meth c H1 locs1 cells slots Q (F0 m (pc + 1) ls rest)) : W p l e R s m args below meth c H locs cells slots Q (F0 m pc ls (.int x :: .int i :: .ref a :: rest)) := by
  obtain ⟨-, y, rfl, hx2⟩ := hI.1.2.2 a _ hG
  exact gw_iast0 M hK hI hG hx2 hin (kx _) rfl hdg kk
theorem gw_bald (M : CallFix p m c cc nL s args tb own) (hK : gw_K D Hs s) (hI : gw_I D Hs G H0 H locs) {n : Nat} {P : Int32 → Prop} (hG : G a = some (kA D 1 n P)) {i : Int32} (hin : vp_in i n) (hdg : decode cc pc = .ok (.baload, 1))
    (kk : ∀ x : Int32, P x → W p l e R s m args below meth c H locs cells slots Q (F0 m (pc + 1) ls (.int x :: rest))) : W p l e R s m args below meth c H locs cells slots Q (F0 m pc ls (.int i :: .ref a :: rest)) := by
  obtain ⟨-, x, ⟨f, hf, rfl⟩, hx2⟩ := hI.1.2.2 a _ hG
  have hlt : i.toNatClampNeg < n := Nat.not_le.mp fun q => hin (Or.inr q)
  exact va_bald M.1 M.2.1 hK.1 (gw_one hx2) 0 1 rfl rfl hin hdg (kk _ (hf _ hlt))
theorem gw_baldx (M : CallFix p m c cc nL s args tb own) (hK : gw_K D Hs s) (hI : gw_I D Hs G H0 H locs) {n : Nat} {f : Nat → Int32} (hG : G a = some (kx (.inl (D.2 1, n, .inl f)))) {i : Int32} (hin : vp_in i n) (hdg : decode cc pc = .ok (.baload, 1))
    (kk : W p l e R s m args below meth c H locs cells slots Q (F0 m (pc + 1) ls (.int (f i.toNatClampNeg) :: rest))) : W p l e R s m args below meth c H locs cells slots Q (F0 m pc ls (.int i :: .ref a :: rest)) := by
  obtain ⟨-, x, rfl, hx2⟩ := hI.1.2.2 a _ hG
  exact va_bald M.1 M.2.1 hK.1 (gw_one hx2) 0 1 rfl rfl hin hdg kk
theorem gw_bast0 (M : CallFix p m c cc nL s args tb own) (hK : gw_K D Hs s) (hI : gw_I D Hs G H0 H locs) {n : Nat} {f : Nat → Int32} (hG : G a = some K) (hat : gw_at D a (.inl (D.2 1, n, .inl f)) H) {i x : Int32} (hin : vp_in i n) (K' : va_E → Prop) (hk : K' (.inl (D.2 1, n, .inl (upd f i.toNatClampNeg (vp_nar .byte x))))) (hdg : decode cc pc = .ok (.bastore, 1))
    (kk : ∀ (H1 : Heap) (locs1 : List Loc), gw_I D Hs (gw_up G a K') H0 H1 locs1 → W p l e R s m args below meth c H1 locs1 cells slots Q (F0 m (pc + 1) ls rest)) : W p l e R s m args below meth c H locs cells slots Q (F0 m pc ls (.int x :: .int i :: .ref a :: rest)) := by
  have hA := (hI.1.2.2 a _ hG).1
  refine W.bast M.1 M.2.1 hat ((hK.1.2 1 _ rfl).1 n (fun j => .int (f j))) (fun q => by cases q) (by show ¬ (i < 0 ∨ (arrV _ _ _).slots.size ≤ _); rw [arrV_size]; exact hin) rfl rfl hdg fun H1 e1 z oq => ?_
  refine kk H1 _ ⟨hI.1.put hG (e := .inl (D.2 1, n, .inl (upd f i.toNatClampNeg (vp_nar .byte x)))) ?_ hk z oq, hI.2.put z oq hA⟩
  show H1[a]? = some (vp_cell _ _)
  rw [e1]
  rw [vp_cell_i, vp_cell_i, arrV_store]
  congr 2
  funext q
  by_cases hq : q = i.toNatClampNeg
  · subst hq
    simp [updV, upd, vp_nar]
    try rfl
  · simp [updV, upd, hq]
theorem gw_bast (M : CallFix p m c cc nL s args tb own) (hK : gw_K D Hs s) (hI : gw_I D Hs G H0 H locs) {n : Nat} {P : Int32 → Prop} (hG : G a = some (kA D 1 n P)) {i x : Int32} (hin : vp_in i n) (hP : P (vp_nar .byte x)) (hdg : decode cc pc = .ok (.bastore, 1))
    (kk : ∀ (H1 : Heap) (locs1 : List Loc), gw_I D Hs G H0 H1 locs1 → W p l e R s m args below meth c H1 locs1 cells slots Q (F0 m (pc + 1) ls rest)) : W p l e R s m args below meth c H locs cells slots Q (F0 m pc ls (.int x :: .int i :: .ref a :: rest)) := by
  obtain ⟨-, y, ⟨f, hf, rfl⟩, hx2⟩ := hI.1.2.2 a _ hG
  refine gw_bast0 M hK hI hG hx2 hin (kA D 1 n P) ⟨_, fun j hj => ?_, rfl⟩ hdg (fun H1 l1 h => kk H1 l1 (by rw [gw_up_id hG] at h; exact h))
  by_cases hq : j = i.toNatClampNeg
  · subst hq; simpa [upd] using hP
  · simpa [upd, hq] using hf j hj
theorem gw_bastx (M : CallFix p m c cc nL s args tb own) (hK : gw_K D Hs s) (hI : gw_I D Hs G H0 H locs) {n : Nat} {f : Nat → Int32} (hG : G a = some (kx (.inl (D.2 1, n, .inl f)))) {i x : Int32} (hin : vp_in i n) (hdg : decode cc pc = .ok (.bastore, 1))
    (kk : ∀ (H1 : Heap) (locs1 : List Loc), gw_I D Hs (gw_up G a (kx (.inl (D.2 1, n, .inl (upd f i.toNatClampNeg (vp_nar .byte x)))))) H0 H1 locs1 → W p l e R s m args below meth c H1 locs1 cells slots Q (F0 m (pc + 1) ls rest)) : W p l e R s m args below meth c H locs cells slots Q (F0 m pc ls (.int x :: .int i :: .ref a :: rest)) := by
  obtain ⟨-, y, rfl, hx2⟩ := hI.1.2.2 a _ hG
  exact gw_bast0 M hK hI hG hx2 hin (kx _) rfl hdg kk
theorem gw_zald (M : CallFix p m c cc nL s args tb own) (hK : gw_K D Hs s) (hI : gw_I D Hs G H0 H locs) {n : Nat} {P : Int32 → Prop} (hG : G a = some (kA D 2 n P)) {i : Int32} (hin : vp_in i n) (hdg : decode cc pc = .ok (.baload, 1))
    (kk : ∀ x : Int32, P x → W p l e R s m args below meth c H locs cells slots Q (F0 m (pc + 1) ls (.int x :: rest))) : W p l e R s m args below meth c H locs cells slots Q (F0 m pc ls (.int i :: .ref a :: rest)) := by
  obtain ⟨-, x, ⟨f, hf, rfl⟩, hx2⟩ := hI.1.2.2 a _ hG
  have hlt : i.toNatClampNeg < n := Nat.not_le.mp fun q => hin (Or.inr q)
  exact va_zald M.1 M.2.1 hK.1 (gw_one hx2) 0 2 rfl rfl hin hdg (kk _ (hf _ hlt))
theorem gw_zaldx (M : CallFix p m c cc nL s args tb own) (hK : gw_K D Hs s) (hI : gw_I D Hs G H0 H locs) {n : Nat} {f : Nat → Int32} (hG : G a = some (kx (.inl (D.2 2, n, .inl f)))) {i : Int32} (hin : vp_in i n) (hdg : decode cc pc = .ok (.baload, 1))
    (kk : W p l e R s m args below meth c H locs cells slots Q (F0 m (pc + 1) ls (.int (f i.toNatClampNeg) :: rest))) : W p l e R s m args below meth c H locs cells slots Q (F0 m pc ls (.int i :: .ref a :: rest)) := by
  obtain ⟨-, x, rfl, hx2⟩ := hI.1.2.2 a _ hG
  exact va_zald M.1 M.2.1 hK.1 (gw_one hx2) 0 2 rfl rfl hin hdg kk
theorem gw_zast0 (M : CallFix p m c cc nL s args tb own) (hK : gw_K D Hs s) (hI : gw_I D Hs G H0 H locs) {n : Nat} {f : Nat → Int32} (hG : G a = some K) (hat : gw_at D a (.inl (D.2 2, n, .inl f)) H) {i x : Int32} (hin : vp_in i n) (K' : va_E → Prop) (hk : K' (.inl (D.2 2, n, .inl (upd f i.toNatClampNeg (vp_nar .boolean x))))) (hdg : decode cc pc = .ok (.bastore, 1))
    (kk : ∀ (H1 : Heap) (locs1 : List Loc), gw_I D Hs (gw_up G a K') H0 H1 locs1 → W p l e R s m args below meth c H1 locs1 cells slots Q (F0 m (pc + 1) ls rest)) : W p l e R s m args below meth c H locs cells slots Q (F0 m pc ls (.int x :: .int i :: .ref a :: rest)) := by
  have hA := (hI.1.2.2 a _ hG).1
  refine W.zast M.1 M.2.1 hat ((hK.1.2 2 _ rfl).1 n (fun j => .int (f j))) (fun q => by cases q) (by show ¬ (i < 0 ∨ (arrV _ _ _).slots.size ≤ _); rw [arrV_size]; exact hin) rfl rfl hdg fun H1 e1 z oq => ?_
  refine kk H1 _ ⟨hI.1.put hG (e := .inl (D.2 2, n, .inl (upd f i.toNatClampNeg (vp_nar .boolean x)))) ?_ hk z oq, hI.2.put z oq hA⟩
  show H1[a]? = some (vp_cell _ _)
  rw [e1]
  rw [vp_cell_i, vp_cell_i, arrV_store]
  congr 2
  funext q
  by_cases hq : q = i.toNatClampNeg
  · subst hq
    simp [updV, upd, vp_nar]
    try rfl
  · simp [updV, upd, hq]
theorem gw_zast (M : CallFix p m c cc nL s args tb own) (hK : gw_K D Hs s) (hI : gw_I D Hs G H0 H locs) {n : Nat} {P : Int32 → Prop} (hG : G a = some (kA D 2 n P)) {i x : Int32} (hin : vp_in i n) (hP : P (vp_nar .boolean x)) (hdg : decode cc pc = .ok (.bastore, 1))
    (kk : ∀ (H1 : Heap) (locs1 : List Loc), gw_I D Hs G H0 H1 locs1 → W p l e R s m args below meth c H1 locs1 cells slots Q (F0 m (pc + 1) ls rest)) : W p l e R s m args below meth c H locs cells slots Q (F0 m pc ls (.int x :: .int i :: .ref a :: rest)) := by
  obtain ⟨-, y, ⟨f, hf, rfl⟩, hx2⟩ := hI.1.2.2 a _ hG
  refine gw_zast0 M hK hI hG hx2 hin (kA D 2 n P) ⟨_, fun j hj => ?_, rfl⟩ hdg (fun H1 l1 h => kk H1 l1 (by rw [gw_up_id hG] at h; exact h))
  by_cases hq : j = i.toNatClampNeg
  · subst hq; simpa [upd] using hP
  · simpa [upd, hq] using hf j hj
theorem gw_zastx (M : CallFix p m c cc nL s args tb own) (hK : gw_K D Hs s) (hI : gw_I D Hs G H0 H locs) {n : Nat} {f : Nat → Int32} (hG : G a = some (kx (.inl (D.2 2, n, .inl f)))) {i x : Int32} (hin : vp_in i n) (hdg : decode cc pc = .ok (.bastore, 1))
    (kk : ∀ (H1 : Heap) (locs1 : List Loc), gw_I D Hs (gw_up G a (kx (.inl (D.2 2, n, .inl (upd f i.toNatClampNeg (vp_nar .boolean x)))))) H0 H1 locs1 → W p l e R s m args below meth c H1 locs1 cells slots Q (F0 m (pc + 1) ls rest)) : W p l e R s m args below meth c H locs cells slots Q (F0 m pc ls (.int x :: .int i :: .ref a :: rest)) := by
  obtain ⟨-, y, rfl, hx2⟩ := hI.1.2.2 a _ hG
  exact gw_zast0 M hK hI hG hx2 hin (kx _) rfl hdg kk
theorem gw_lald (M : CallFix p m c cc nL s args tb own) (hK : gw_K D Hs s) (hI : gw_I D Hs G H0 H locs) {n : Nat} {P : Int64 → Prop} (hG : G a = some (kL D n P)) {i : Int32} (hin : vp_in i n) (hdg : decode cc pc = .ok (.laload, 1))
    (kk : ∀ x : Int64, P x → W p l e R s m args below meth c H locs cells slots Q (F0 m (pc + 1) ls (.long x :: rest))) : W p l e R s m args below meth c H locs cells slots Q (F0 m pc ls (.int i :: .ref a :: rest)) := by
  obtain ⟨-, x, ⟨f, hf, rfl⟩, hx2⟩ := hI.1.2.2 a _ hG
  have hlt : i.toNatClampNeg < n := Nat.not_le.mp fun q => hin (Or.inr q)
  exact va_lald M.1 M.2.1 hK.1 (gw_one hx2) 0 3 rfl rfl hin hdg (kk _ (hf _ hlt))
theorem gw_laldx (M : CallFix p m c cc nL s args tb own) (hK : gw_K D Hs s) (hI : gw_I D Hs G H0 H locs) {n : Nat} {f : Nat → Int64} (hG : G a = some (kx (.inl (D.2 3, n, .inr (.inl f))))) {i : Int32} (hin : vp_in i n) (hdg : decode cc pc = .ok (.laload, 1))
    (kk : W p l e R s m args below meth c H locs cells slots Q (F0 m (pc + 1) ls (.long (f i.toNatClampNeg) :: rest))) : W p l e R s m args below meth c H locs cells slots Q (F0 m pc ls (.int i :: .ref a :: rest)) := by
  obtain ⟨-, x, rfl, hx2⟩ := hI.1.2.2 a _ hG
  exact va_lald M.1 M.2.1 hK.1 (gw_one hx2) 0 3 rfl rfl hin hdg kk
theorem gw_last0 (M : CallFix p m c cc nL s args tb own) (hK : gw_K D Hs s) (hI : gw_I D Hs G H0 H locs) {n : Nat} {f : Nat → Int64} (hG : G a = some K) (hat : gw_at D a (.inl (D.2 3, n, .inr (.inl f))) H) {i : Int32} {x : Int64} (hin : vp_in i n) (K' : va_E → Prop) (hk : K' (.inl (D.2 3, n, .inr (.inl (vp_updL f i.toNatClampNeg x))))) (hdg : decode cc pc = .ok (.lastore, 1))
    (kk : ∀ (H1 : Heap) (locs1 : List Loc), gw_I D Hs (gw_up G a K') H0 H1 locs1 → W p l e R s m args below meth c H1 locs1 cells slots Q (F0 m (pc + 1) ls rest)) : W p l e R s m args below meth c H locs cells slots Q (F0 m pc ls (.long x :: .int i :: .ref a :: rest)) := by
  have hA := (hI.1.2.2 a _ hG).1
  refine W.last M.1 M.2.1 hat ((hK.1.2 3 _ rfl).1 n (fun j => .long (f j))) (fun q => by cases q) (by show ¬ (i < 0 ∨ (arrV _ _ _).slots.size ≤ _); rw [arrV_size]; exact hin) rfl rfl hdg fun H1 e1 z oq => ?_
  refine kk H1 _ ⟨hI.1.put hG (e := .inl (D.2 3, n, .inr (.inl (vp_updL f i.toNatClampNeg x)))) ?_ hk z oq, hI.2.put z oq hA⟩
  show H1[a]? = some (vp_cell _ _)
  rw [e1]
  rw [vp_cell_l, vp_cell_l, arrV_store]
  congr 2
  funext q
  by_cases hq : q = i.toNatClampNeg
  · subst hq
    simp [updV, vp_updL]
  · simp [updV, vp_updL, hq]
theorem gw_last (M : CallFix p m c cc nL s args tb own) (hK : gw_K D Hs s) (hI : gw_I D Hs G H0 H locs) {n : Nat} {P : Int64 → Prop} (hG : G a = some (kL D n P)) {i : Int32} {x : Int64} (hin : vp_in i n) (hP : P x) (hdg : decode cc pc = .ok (.lastore, 1))
    (kk : ∀ (H1 : Heap) (locs1 : List Loc), gw_I D Hs G H0 H1 locs1 → W p l e R s m args below meth c H1 locs1 cells slots Q (F0 m (pc + 1) ls rest)) : W p l e R s m args below meth c H locs cells slots Q (F0 m pc ls (.long x :: .int i :: .ref a :: rest)) := by
  obtain ⟨-, y, ⟨f, hf, rfl⟩, hx2⟩ := hI.1.2.2 a _ hG
  refine gw_last0 M hK hI hG hx2 hin (kL D n P) ⟨_, fun j hj => ?_, rfl⟩ hdg (fun H1 l1 h => kk H1 l1 (by rw [gw_up_id hG] at h; exact h))
  by_cases hq : j = i.toNatClampNeg
  · subst hq; simpa [vp_updL] using hP
  · simpa [vp_updL, hq] using hf j hj
theorem gw_lastx (M : CallFix p m c cc nL s args tb own) (hK : gw_K D Hs s) (hI : gw_I D Hs G H0 H locs) {n : Nat} {f : Nat → Int64} (hG : G a = some (kx (.inl (D.2 3, n, .inr (.inl f))))) {i : Int32} {x : Int64} (hin : vp_in i n) (hdg : decode cc pc = .ok (.lastore, 1))
    (kk : ∀ (H1 : Heap) (locs1 : List Loc), gw_I D Hs (gw_up G a (kx (.inl (D.2 3, n, .inr (.inl (vp_updL f i.toNatClampNeg x)))))) H0 H1 locs1 → W p l e R s m args below meth c H1 locs1 cells slots Q (F0 m (pc + 1) ls rest)) : W p l e R s m args below meth c H locs cells slots Q (F0 m pc ls (.long x :: .int i :: .ref a :: rest)) := by
  obtain ⟨-, y, rfl, hx2⟩ := hI.1.2.2 a _ hG
  exact gw_last0 M hK hI hG hx2 hin (kx _) rfl hdg kk
theorem gw_alen (M : CallFix p m c cc nL s args tb own) (hK : gw_K D Hs s) (hI : gw_I D Hs G H0 H locs) (hG : G a = some K) (t n : Nat) {ty : FieldType} (ht : (gw_ty D)[t]? = some (D.2 t, ty)) (hk : ∀ x, K x → ∃ z, x = .inl (D.2 t, n, z)) (hdg : decode cc pc = .ok (.arraylength, 1))
    (kk : W p l e R s m args below meth c H locs cells slots Q (F0 m (pc + 1) ls (.int (nI n) :: rest))) : W p l e R s m args below meth c H locs cells slots Q (F0 m pc ls (.ref a :: rest)) := by
  obtain ⟨-, x, hx1, hx2⟩ := hI.1.2.2 a _ hG
  obtain ⟨z, rfl⟩ := hk x hx1
  exact va_alen M.1 M.2.1 hK.1 (gw_one hx2) 0 t rfl ht rfl hdg kk
theorem gw_aald (M : CallFix p m c cc nL s args tb own) (hK : gw_K D Hs s) (hI : gw_I D Hs G H0 H locs) (t : Nat) {C : String} (ht : (gw_ty D)[t]? = some (D.2 t, .object C)) {n : Nat} {P : Nat → Nat → Prop} (hG : G a = some (kR D t n P)) {i : Int32} (hin : vp_in i n) (hdg : decode cc pc = .ok (.aaload, 1))
    (kk : ∀ b : Nat, P i.toNatClampNeg b → W p l e R s m args below meth c H locs cells slots Q (F0 m (pc + 1) ls (.ref b :: rest))) : W p l e R s m args below meth c H locs cells slots Q (F0 m pc ls (.int i :: .ref a :: rest)) := by
  obtain ⟨-, x, ⟨f, hf, rfl⟩, hx2⟩ := hI.1.2.2 a _ hG
  have hlt : i.toNatClampNeg < n := Nat.not_le.mp fun q => hin (Or.inr q)
  obtain ⟨b, hb1, hb2⟩ := hf _ hlt
  refine va_aldq M.1 M.2.1 hK.1 (gw_one hx2) 0 t rfl ht hin hdg ?_
  rw [hb1]
  exact kk b hb2
theorem gw_aast (M : CallFix p m c cc nL s args tb own) (hK : gw_K D Hs s) (hI : gw_I D Hs G H0 H locs) (t ci : Nat) {r : vw_C} (ht : (gw_ty D)[t]? = some (D.2 t, .object r.1)) (hc : gcl[ci]? = some r) {n v : Nat} {f : Nat → Option Nat} (hG : G a = some K) (hat : gw_at D a (.inl (D.2 t, n, .inr (.inr (.inr (.inr f))))) H) {K2 : va_E → Prop} (hV : G v = some K2) (hv : ∀ x, K2 x → ∃ fs, x = .inr (ci, fs)) {i : Int32} (hin : vp_in i n) (K' : va_E → Prop) (hk : K' (.inl (D.2 t, n, .inr (.inr (.inr (.inr (va_up f i.toNatClampNeg (some v)))))))) (hdg : decode cc pc = .ok (.aastore, 1))
    (kk : ∀ (H1 : Heap) (locs1 : List Loc), gw_I D Hs (gw_up G a K') H0 H1 locs1 → W p l e R s m args below meth c H1 locs1 cells slots Q (F0 m (pc + 1) ls rest)) : W p l e R s m args below meth c H locs cells slots Q (F0 m pc ls (.ref v :: .int i :: .ref a :: rest)) := by
  have hA := (hI.1.2.2 a _ hG).1
  have hlt : i.toNatClampNeg < n := Nat.not_le.mp fun q => hin (Or.inr q)
  have h0 : ¬ i < 0 := fun q => hin (Or.inl q)
  obtain ⟨-, y, hy1, hy2⟩ := hI.1.2.2 v _ hV
  obtain ⟨fs, rfl⟩ := hv y hy1
  obtain ⟨r', hr', cellV, g1, g2, g3, -⟩ := hy2
  have hcls := (hK.1.1 ci r hc).2
  obtain ⟨kA, comp, k1, k2, k3, -⟩ := (hK.1.2 t _ ht).2
  have hcomp : comp = D.1.1 ci := Option.some.inj (k3.symm.trans hcls.1)
  subst hcomp
  obtain ⟨kC, hkC, -⟩ := hcls.2
  refine W.aast M.1 M.2.1 hat (fun q h => by cases h) (fun h => by cases h) k1 k2 rfl hkC ⟨h0, by show _ < (arrV _ _ _).slots.size; rw [arrV_size]; exact hlt⟩ g1 (fun q h => by rw [g3] at h; cases h) (by rw [g2]; exact hkC) (by rw [g2]; exact va_assign hcls) rfl rfl hdg fun H1 e1 z oq => ?_
  refine kk H1 _ ⟨hI.1.put hG (e := .inl (D.2 t, n, .inr (.inr (.inr (.inr (va_up f i.toNatClampNeg (some v))))))) ?_ hk z oq, hI.2.put z oq hA⟩
  show H1[a]? = some (vp_cell _ _)
  rw [e1]
  rw [vp_cell_q, vp_cell_q, arrV_store]
  congr 2
  funext q
  by_cases hq : q = i.toNatClampNeg
  · subst hq
    simp [updV, va_up, va_rf]
  · simp [updV, va_up, hq]
theorem gw_S.new {A : Nat → Prop} {H H1 : Heap} (h : va_S A H0 H locs) (z : H1.size = H.size + 1) (o1 : ∀ q : Nat, q < H.size → H1[q]? = H[q]?) : va_S A H0 H1 locs := ⟨Nat.le_trans h.1 (by omega), fun x h1 h2 => (o1 x (Nat.lt_of_lt_of_le h1 h.1)).trans (h.2.1 x h1 h2), h.2.2⟩
theorem gw_newa (M : CallFix p m c cc nL s args tb own) (hK : gw_K D Hs s) (hI : gw_I D Hs G H0 H locs) {atype : ArrayType} (harr : Cond.arrayClass (newarray.typeOf atype) ∈ tb) (t : Nat) (ht : (gw_ty D)[t]? = some (D.2 t, newarray.typeOf atype)) (hra : ∀ (U : State) (cA : ClassId), va_RA U cA (newarray.typeOf atype) → U.vm.findClass ("[" ++ (newarray.typeOf atype).toString) = some cA)
    {n : Int32} {N' : Nat} {a0 : vp_A} (ha : ∀ cA : ClassId, vp_cell cA a0 = arrV cA N' (fun _ => defaultValue (newarray.typeOf atype))) (hn : ¬ n < 0) (hN : n.toNatClampNeg = N') (hbytes : N' * componentBytes (newarray.typeOf atype) ≤ 536870912) (hcells : cells + 1 ≤ R.cells) (hslots : slots + N' ≤ R.slots) (hdg : decode cc pc = .ok (.newarray atype, 2))
    (kk : ∀ (q : Nat) (H1 : Heap), G q = none → gw_I D Hs (gw_up G q (kx (.inl (D.2 t, a0)))) H0 H1 locs → W p l e R s m args below meth c H1 locs (cells + 1) (slots + N') Q (F0 m (pc + 2) ls (.ref q :: rest))) : W p l e R s m args below meth c H locs cells slots Q (F0 m pc ls (.int n :: rest)) := by
  refine va_newaK M.1 M.2.1 (M.2.2.2.2 _ harr) rfl hdg rfl hn hN hbytes hcells hslots rfl fun H1 cA e1 z1 o1 hAr hNm => ?_
  have hcA : cA = D.2 t := Option.some.inj (hNm.symm.trans (hra _ _ (hK.1.2 t _ ht).2))
  subst hcA
  refine kk H.size H1 hI.1.none ⟨hI.1.new (e := .inl (D.2 t, a0)) ?_ rfl z1 o1, gw_S.new hI.2 z1 o1⟩
  show H1[H.size]? = some (vp_cell _ _)
  rw [ha]
  exact e1
theorem gw_newq (M : CallFix p m c cc nL s args tb own) (hK : gw_K D Hs s) (hI : gw_I D Hs G H0 H locs) {C : String} {index : Nat} (hclink : Cond.classLink own index C ∈ tb) (hover : va_AO C s) (t : Nat) (ht : (gw_ty D)[t]? = some (D.2 t, .object C))
    {n : Int32} {N' : Nat} (hn : ¬ n < 0) (hN : n.toNatClampNeg = N') (hbytes : N' * 4 ≤ 536870912) (hcells : cells + 1 ≤ R.cells) (hslots : slots + N' ≤ R.slots) (hdg : decode cc pc = .ok (.anewarray index, 3))
    (kk : ∀ (q : Nat) (H1 : Heap), G q = none → gw_I D Hs (gw_up G q (kx (.inl (D.2 t, N', .inr (.inr (.inr (.inr (fun _ => none)))))))) H0 H1 locs → W p l e R s m args below meth c H1 locs (cells + 1) (slots + N') Q (F0 m (pc + 3) ls (.ref q :: rest))) : W p l e R s m args below meth c H locs cells slots Q (F0 m pc ls (.int n :: rest)) := by
  subst hN
  refine W.anew M.1 M.2.1 M.2.2.2.1 (M.2.2.2.2 _ hclink) (va_AO.use hover) rfl hdg rfl hn hbytes hcells hslots fun cA kA comp f1 f2 f3 f4 => ?_
  obtain ⟨-, -, -, -, -, k4⟩ := (hK.1.2 t _ ht).2
  have hcA : cA = D.2 t := Option.some.inj (f1.symm.trans k4)
  subst hcA
  generalize hH1 : H.push ({ cls := D.2 t, slots := Array.replicate n.toNatClampNeg .null, vm := .none } : Cell) = H1
  have z1 : H1.size = H.size + 1 := by rw [← hH1, Array.size_push]
  have e1 : H1[H.size]? = some (arrV (D.2 t) n.toNatClampNeg (fun _ => .null)) := by rw [← hH1, Array.getElem?_push_size, ← arrV_new]
  have o1 : ∀ q : Nat, q < H.size → H1[q]? = H[q]? := fun q hq => by rw [← hH1, Array.getElem?_push, if_neg (Nat.ne_of_lt hq)]
  refine kk H.size H1 hI.1.none ⟨hI.1.new (e := .inl (D.2 t, n.toNatClampNeg, .inr (.inr (.inr (.inr (fun _ => none)))))) ?_ rfl z1 o1, gw_S.new hI.2 z1 o1⟩
  show H1[H.size]? = some (vp_cell _ _)
  rw [e1]
  rfl
theorem gw_new (M : CallFix p m c cc nL s args tb own) (hK : gw_K D Hs s) (hI : gw_I D Hs G H0 H locs) {C : String} {T : u_T} {N ci index : Nat} (hin : ∀ w ∈ u_ws C T N, w ∈ tb) (ty : Nat → FieldType) (hty : ∀ k, k < N → parseFieldDescriptor (T k).2.2.1 = some (ty k)) (hcl : Cond.classLink own index C ∈ tb) (hinst : Cond.instantiable C N ∈ tb) (hini : Cond.initialized C ∈ tb)
    (hc : gcl[ci]? = some (C, T, N)) {fs : List Value} (hfs : ∀ j, j < N → defaultValue (ty j) = vp_V fs j) (hcells : cells + 1 ≤ R.cells) (hslots : slots + N ≤ R.slots) (hdg : decode cc pc = .ok (.new index, 3))
    (kk : ∀ (q : Nat) (H1 : Heap), G q = none → gw_I D Hs (gw_up G q (kx (.inr (ci, fs)))) H0 H1 locs → W p l e R s m args below meth c H1 locs (cells + 1) (slots + N) Q (F0 m (pc + 3) ls (.ref q :: rest))) : W p l e R s m args below meth c H locs cells slots Q (F0 m pc ls rest) := by
  have hts := M.2.2.2.2
  have hKn := hK.1.1 ci _ hc
  refine W.newcK M.1 M.2.1 M.2.2.2.1 (hts _ hcl) (hts _ hinst) (hts _ hini) rfl hdg hcells hslots hKn.2.1 rfl fun H1 kC hkC e1 z1 o1 => ?_
  exact kk H.size H1 hI.1.none ⟨hI.1.new (e := .inr (ci, fs)) ⟨_, hc, (u_born ty hts hin hKn hkC e1 hty).to hfs⟩ rfl z1 o1, gw_S.new hI.2 z1 o1⟩
end GWA
end
section
theorem gk_in {w : Cond} (h : w ∈ tb) : w ∈ tb := h
theorem gk_cwV {R : Room} {s : State} {args : Array Value} {own : String} {index : Nat} {y : MethodName} {bytes : ByteArray} {maxL mc ms n : Nat} {ret : Option FieldType} {rm : Room} (ht : ∀ w ∈ tb, w.before args s = true) (hl : Cond.methodLink own index y ∈ tb) (k : gk_V y bytes maxL ret n) (hrc : rm.cells = mc) (hrs : rm.slots = ms) (hR : rm.frames + 1 ≤ R.frames ∧ 8 + (maxL + 11) + rm.locals ≤ R.locals) :
    CallW R s args own y.cls index y bytes maxL ret (Cond.code y bytes maxL ret :: tb) rm mc ms n := by
  obtain ⟨k1, k2, k3, k4, k5, k6⟩ := k
  refine cwV n ht (tb_gi (fun _ h => h) (fun w hw => ?_)) rfl hrc hrs ⟨rfl, k5.1, k5.2, k6⟩ hR
  rcases List.mem_append.mp hw with h | h
  · rcases List.mem_cons.mp h with rfl | h
    · exact hl
    · rcases List.mem_cons.mp h with rfl | h
      · exact k1
      · rcases List.mem_cons.mp h with rfl | h
        · exact k2
        · rcases List.mem_cons.mp h with rfl | h
          · exact k3
          · exact absurd h List.not_mem_nil
  · rcases List.mem_cons.mp h with rfl | h
    · exact k4
    · exact h
theorem gk_cwS {R : Room} {s : State} {args : Array Value} {own : String} {index : Nat} {y : MethodName} {bytes : ByteArray} {maxL mc ms n : Nat} {ret : Option FieldType} {rm : Room} (ht : ∀ w ∈ tb, w.before args s = true) (hl : Cond.methodLink own index y ∈ tb) (k : gk_S y bytes maxL ret n) (hrc : rm.cells = mc) (hrs : rm.slots = ms) (hR : rm.frames + 1 ≤ R.frames ∧ 8 + (maxL + 11) + rm.locals ≤ R.locals) :
    CallB R s args own index y bytes maxL ret (Cond.code y bytes maxL ret :: tb) rm mc ms n ∧ (Cond.static y).before args s = true := by
  obtain ⟨k1, k3, k4, k5, k6⟩ := k
  refine ⟨callB_of n ht (tb_gi (fun _ h => h) (fun w hw => ?_)) rfl hrc hrs (ht _ k3) (ht _ hl) ⟨k5.1, k5.2, k6⟩ hR, ht _ k1⟩
  rcases List.mem_cons.mp hw with rfl | h
  · exact k4
  · exact h
theorem gk_cwI {R : Room} {s : State} {args : Array Value} {own : String} {index : Nat} {y : MethodName} {bytes : ByteArray} {maxL mc ms n : Nat} {rm : Room} (ht : ∀ w ∈ tb, w.before args s = true) (hl : Cond.methodLink own index y ∈ tb) (k : gk_I y bytes maxL n) (hrc : rm.cells = mc) (hrs : rm.slots = ms) (hR : rm.frames + 1 ≤ R.frames ∧ 8 + (maxL + 11) + rm.locals ≤ R.locals) :
    CallB R s args own index y bytes maxL none (Cond.code y bytes maxL none :: tb) rm mc ms n ∧ y.name = "<init>" ∧ (Cond.instanceMethod y).before args s = true := by
  obtain ⟨k1, k2, k3, k4, k5, k6⟩ := k
  refine ⟨callB_of n ht (tb_gi (fun _ h => h) (fun w hw => ?_)) rfl hrc hrs (ht _ k3) (ht _ hl) ⟨k5.1, k5.2, k6⟩ hR, k2, ht _ k1⟩
  rcases List.mem_cons.mp hw with rfl | h
  · exact k4
  · exact h
theorem gk_cwN {R : Room} {s : State} {args : Array Value} {own host : String} {index : Nat} {y : MethodName} {bytes : ByteArray} {maxL mc ms n : Nat} {rm : Room} (ht : ∀ w ∈ tb, w.before args s = true) (hl : va_Nw (.methodLinkNest own index y host) s) (k : gk_I y bytes maxL n) (hrc : rm.cells = mc) (hrs : rm.slots = ms) (hR : rm.frames + 1 ≤ R.frames ∧ 8 + (maxL + 11) + rm.locals ≤ R.locals) :
    va_CN R s args own index y host bytes maxL none (Cond.code y bytes maxL none :: tb) rm mc ms n ∧ y.name = "<init>" ∧ (Cond.instanceMethod y).before args s = true := by
  obtain ⟨k1, k2, k3, k4, k5, k6⟩ := k
  refine ⟨va_cnB n ht (tb_gi (fun _ h => h) (fun w hw => ?_)) rfl hrc hrs hl (ht _ k3) ⟨k5.1, k5.2, k6⟩ hR, k2, ht _ k1⟩
  rcases List.mem_cons.mp hw with rfl | h
  · exact k4
  · exact h
/-- the room that a call needs -/
def gk_R (rm R : Room) (maxL mc ms cells slots : Nat) : Prop := rm.cells = mc ∧ rm.slots = ms ∧ (rm.frames + 1 ≤ R.frames ∧ 8 + (maxL + 11) + rm.locals ≤ R.locals) ∧ (cells + mc ≤ R.cells ∧ slots + ms ≤ R.slots)
section GWC
variable {p : Program} {l : Launch} {e : Env} {R : Room} {s : State} {m : MethodId} {args : Array Value} {below : List Frame} {meth : Method} {c : Code} {H H0 : Heap} {locs : List Loc} {cells slots : Nat} {Q : State → Prop}
variable {cc : ByteArray} {pc nL : Nat} {ls : Array Slot} {rest st : List Value} {a : Nat} {own : String} {D : gw_D} {Hs : Heap} {G : gw_G} {K : va_E → Prop}
variable {y : MethodName} {bytes : ByteArray} {maxL mc ms n index b : Nat} {ret : Option FieldType} {rm : Room} {As : List Value}
theorem gw_recv (hK : gw_K D Hs s) (hI : gw_I D Hs G H0 H locs) (hG : G b = some K) {C : String} {T : u_T} {N ci : Nat} (hc : gcl[ci]? = some (C, T, N)) (hv : ∀ x, K x → ∃ fs, x = .inr (ci, fs)) : ∃ cellB : Cell, H[b]? = some cellB ∧ cellB.vm.isStatics = false ∧ s.vm.findClass C = some cellB.cls := by
  obtain ⟨-, x, hx1, hx2⟩ := hI.1.2.2 b K hG
  obtain ⟨fs, rfl⟩ := hv x hx1
  exact va_recv hK.1 (gw_one hx2) hc (q0 := 0) rfl
theorem gw_pre (hK : gw_K D Hs s) (hI : gw_I D Hs G H0 H locs) (av : List Value) : ∀ U : State, U.heap = H → s.WarmedH U.vm → gw_Pc D Hs G av av.toArray U := fun U hU hW => ⟨rfl, by rw [hU]; exact hI.1, hK.moved hW⟩
theorem gw_Vv {post : gw_G → Prop} (M : CallFix p m c cc nL s args tb own) (hK : gw_K D Hs s) (hI : gw_I D Hs G H0 H locs) (hM : Met l y (Cond.code y bytes maxL ret :: tb) rm (gw_Pc D Hs G (.ref b :: As)) (gw_Qv D Hs post) mc ms (gw_A Hs)) (k : gk_V y bytes maxL ret n) (hl : Cond.methodLink own index y ∈ tb) (hG : G b = some K) {T : u_T} {N ci : Nat} (hc : gcl[ci]? = some (y.cls, T, N)) (hv : ∀ x, K x → ∃ fs, x = .inr (ci, fs)) (hn : As.length = n) (hsize : ls.size = nL) (hst : st = As.reverse ++ .ref b :: rest) (hW : (rest.map fun v => v.category).sum ≤ 8) (hR : gk_R rm R maxL mc ms cells slots) (hdg : decode cc pc = .ok (.invokevirtual index, 3))
    (kk : ∀ (G1 : gw_G) (H1 : Heap) (locs1 : List Loc), post G1 → gw_I D Hs G1 H0 H1 locs1 → W p l e R s m args below meth c H1 locs1 (cells + mc) (slots + ms) Q (F0 m (pc + 3) ls rest)) : W p l e R s m args below meth c H locs cells slots Q (F0 m pc ls st) := by
  subst hst
  exact va_callv (va_runV (As := As) (rest := rest) M hM (gk_cwV M.2.2.2.2 hl k hR.1 hR.2.1 hR.2.2.1) ⟨gw_Pc.blind, gw_recv hK hI hG hc hv, gw_pre hK hI _⟩ rfl hn hsize rfl (lv_room hW) hdg hR.2.2.2) hI.2 (fun q _ h => h) (fun q h => h) (fun u t H1 locs1 ht hvm hw hB hz1 hk1 hS => kk u H1 locs1 hw ⟨by rw [← ht]; exact hB, hS⟩)
theorem gw_Sv {post : gw_G → Prop} (M : CallFix p m c cc nL s args tb own) (hK : gw_K D Hs s) (hI : gw_I D Hs G H0 H locs) (hM : Met l y (Cond.code y bytes maxL ret :: tb) rm (gw_Pc D Hs G As) (gw_Qv D Hs post) mc ms (gw_A Hs)) (k : gk_S y bytes maxL ret n) (hl : Cond.methodLink own index y ∈ tb) (hn : As.length = n) (hsize : ls.size = nL) (hst : st = As.reverse ++ rest) (hW : (rest.map fun v => v.category).sum ≤ 8) (hR : gk_R rm R maxL mc ms cells slots) (hdg : decode cc pc = .ok (.invokestatic index, 3))
    (kk : ∀ (G1 : gw_G) (H1 : Heap) (locs1 : List Loc), post G1 → gw_I D Hs G1 H0 H1 locs1 → W p l e R s m args below meth c H1 locs1 (cells + mc) (slots + ms) Q (F0 m (pc + 3) ls rest)) : W p l e R s m args below meth c H locs cells slots Q (F0 m pc ls st) := by
  subst hst
  exact va_callv (va_runS (As := As) (rest := rest) M hM (gk_cwS M.2.2.2.2 hl k hR.1 hR.2.1 hR.2.2.1) ⟨gw_Pc.blind, gw_pre hK hI _⟩ rfl hn hsize rfl (lv_room hW) hdg hR.2.2.2) hI.2 (fun q _ h => h) (fun q h => h) (fun u t H1 locs1 ht hvm hw hB hz1 hk1 hS => kk u H1 locs1 hw ⟨by rw [← ht]; exact hB, hS⟩)
theorem gw_Iv {post : gw_G → Prop} (M : CallFix p m c cc nL s args tb own) (hK : gw_K D Hs s) (hI : gw_I D Hs G H0 H locs) (hM : Met l y (Cond.code y bytes maxL none :: tb) rm (gw_Pc D Hs G (.ref b :: As)) (gw_Qv D Hs post) mc ms (gw_A Hs)) (k : gk_I y bytes maxL n) (hl : Cond.methodLink own index y ∈ tb) (hn : As.length = n) (hsize : ls.size = nL) (hst : st = As.reverse ++ .ref b :: rest) (hW : (rest.map fun v => v.category).sum ≤ 8) (hR : gk_R rm R maxL mc ms cells slots) (hdg : decode cc pc = .ok (.invokespecial index, 3))
    (kk : ∀ (G1 : gw_G) (H1 : Heap) (locs1 : List Loc), post G1 → gw_I D Hs G1 H0 H1 locs1 → W p l e R s m args below meth c H1 locs1 (cells + mc) (slots + ms) Q (F0 m (pc + 3) ls rest)) : W p l e R s m args below meth c H locs cells slots Q (F0 m pc ls st) := by
  subst hst
  exact va_callv (va_runI (As := As) (rest := rest) M hM (gk_cwI M.2.2.2.2 hl k hR.1 hR.2.1 hR.2.2.1) ⟨gw_Pc.blind, gw_pre hK hI _⟩ rfl hn hsize rfl (lv_room hW) hdg hR.2.2.2) hI.2 (fun q _ h => h) (fun q h => h) (fun u t H1 locs1 ht hvm hw hB hz1 hk1 hS => kk u H1 locs1 hw ⟨by rw [← ht]; exact hB, hS⟩)
theorem gw_Nv {post : gw_G → Prop} {host : String} (M : CallFix p m c cc nL s args tb own) (hK : gw_K D Hs s) (hI : gw_I D Hs G H0 H locs) (hM : Met l y (Cond.code y bytes maxL none :: tb) rm (gw_Pc D Hs G (.ref b :: As)) (gw_Qv D Hs post) mc ms (gw_A Hs)) (k : gk_I y bytes maxL n) (hl : va_Nw (.methodLinkNest own index y host) s) (hn : As.length = n) (hsize : ls.size = nL) (hst : st = As.reverse ++ .ref b :: rest) (hW : (rest.map fun v => v.category).sum ≤ 8) (hR : gk_R rm R maxL mc ms cells slots) (hdg : decode cc pc = .ok (.invokespecial index, 3))
    (kk : ∀ (G1 : gw_G) (H1 : Heap) (locs1 : List Loc), post G1 → gw_I D Hs G1 H0 H1 locs1 → W p l e R s m args below meth c H1 locs1 (cells + mc) (slots + ms) Q (F0 m (pc + 3) ls rest)) : W p l e R s m args below meth c H locs cells slots Q (F0 m pc ls st) := by
  subst hst
  exact va_callv (va_runIN (As := As) (rest := rest) M hM (gk_cwN M.2.2.2.2 hl k hR.1 hR.2.1 hR.2.2.1) ⟨gw_Pc.blind, gw_pre hK hI _⟩ rfl hn hsize rfl (lv_room hW) hdg hR.2.2.2) hI.2 (fun q _ h => h) (fun q h => h) (fun u t H1 locs1 ht hvm hw hB hz1 hk1 hS => kk u H1 locs1 hw ⟨by rw [← ht]; exact hB, hS⟩)
theorem gw_Vi {post : Int32 → gw_G → Prop} (M : CallFix p m c cc nL s args tb own) (hK : gw_K D Hs s) (hI : gw_I D Hs G H0 H locs) (hM : Met l y (Cond.code y bytes maxL ret :: tb) rm (gw_Pc D Hs G (.ref b :: As)) (gw_Qi D Hs post) mc ms (gw_A Hs)) (k : gk_V y bytes maxL ret n) (hl : Cond.methodLink own index y ∈ tb) (hG : G b = some K) {T : u_T} {N ci : Nat} (hc : gcl[ci]? = some (y.cls, T, N)) (hv : ∀ x, K x → ∃ fs, x = .inr (ci, fs)) (hn : As.length = n) (hsize : ls.size = nL) (hst : st = As.reverse ++ .ref b :: rest) (hW : (rest.map fun v => v.category).sum ≤ 8) (hR : gk_R rm R maxL mc ms cells slots) (hdg : decode cc pc = .ok (.invokevirtual index, 3))
    (kk : ∀ (r : Int32) (G1 : gw_G) (H1 : Heap) (locs1 : List Loc), post r G1 → gw_I D Hs G1 H0 H1 locs1 → W p l e R s m args below meth c H1 locs1 (cells + mc) (slots + ms) Q (F0 m (pc + 3) ls (.int r :: rest))) : W p l e R s m args below meth c H locs cells slots Q (F0 m pc ls st) := by
  subst hst
  exact va_calli (va_runV (As := As) (rest := rest) M hM (gk_cwV M.2.2.2.2 hl k hR.1 hR.2.1 hR.2.2.1) ⟨gw_Pc.blind, gw_recv hK hI hG hc hv, gw_pre hK hI _⟩ rfl hn hsize rfl (lv_room hW) hdg hR.2.2.2) hI.2 (fun q _ h => h) (fun q h => h) (fun r u t H1 locs1 ht hvm hw hB hz1 hk1 hS => kk r u H1 locs1 hw ⟨by rw [← ht]; exact hB, hS⟩)
theorem gw_Si {post : Int32 → gw_G → Prop} (M : CallFix p m c cc nL s args tb own) (hK : gw_K D Hs s) (hI : gw_I D Hs G H0 H locs) (hM : Met l y (Cond.code y bytes maxL ret :: tb) rm (gw_Pc D Hs G As) (gw_Qi D Hs post) mc ms (gw_A Hs)) (k : gk_S y bytes maxL ret n) (hl : Cond.methodLink own index y ∈ tb) (hn : As.length = n) (hsize : ls.size = nL) (hst : st = As.reverse ++ rest) (hW : (rest.map fun v => v.category).sum ≤ 8) (hR : gk_R rm R maxL mc ms cells slots) (hdg : decode cc pc = .ok (.invokestatic index, 3))
    (kk : ∀ (r : Int32) (G1 : gw_G) (H1 : Heap) (locs1 : List Loc), post r G1 → gw_I D Hs G1 H0 H1 locs1 → W p l e R s m args below meth c H1 locs1 (cells + mc) (slots + ms) Q (F0 m (pc + 3) ls (.int r :: rest))) : W p l e R s m args below meth c H locs cells slots Q (F0 m pc ls st) := by
  subst hst
  exact va_calli (va_runS (As := As) (rest := rest) M hM (gk_cwS M.2.2.2.2 hl k hR.1 hR.2.1 hR.2.2.1) ⟨gw_Pc.blind, gw_pre hK hI _⟩ rfl hn hsize rfl (lv_room hW) hdg hR.2.2.2) hI.2 (fun q _ h => h) (fun q h => h) (fun r u t H1 locs1 ht hvm hw hB hz1 hk1 hS => kk r u H1 locs1 hw ⟨by rw [← ht]; exact hB, hS⟩)
theorem gw_Vl {post : Int64 → gw_G → Prop} (M : CallFix p m c cc nL s args tb own) (hK : gw_K D Hs s) (hI : gw_I D Hs G H0 H locs) (hM : Met l y (Cond.code y bytes maxL ret :: tb) rm (gw_Pc D Hs G (.ref b :: As)) (gw_Ql D Hs post) mc ms (gw_A Hs)) (k : gk_V y bytes maxL ret n) (hl : Cond.methodLink own index y ∈ tb) (hG : G b = some K) {T : u_T} {N ci : Nat} (hc : gcl[ci]? = some (y.cls, T, N)) (hv : ∀ x, K x → ∃ fs, x = .inr (ci, fs)) (hn : As.length = n) (hsize : ls.size = nL) (hst : st = As.reverse ++ .ref b :: rest) (hW : (rest.map fun v => v.category).sum ≤ 8) (hR : gk_R rm R maxL mc ms cells slots) (hdg : decode cc pc = .ok (.invokevirtual index, 3))
    (kk : ∀ (r : Int64) (G1 : gw_G) (H1 : Heap) (locs1 : List Loc), post r G1 → gw_I D Hs G1 H0 H1 locs1 → W p l e R s m args below meth c H1 locs1 (cells + mc) (slots + ms) Q (F0 m (pc + 3) ls (.long r :: rest))) : W p l e R s m args below meth c H locs cells slots Q (F0 m pc ls st) := by
  subst hst
  exact va_calll (va_runV (As := As) (rest := rest) M hM (gk_cwV M.2.2.2.2 hl k hR.1 hR.2.1 hR.2.2.1) ⟨gw_Pc.blind, gw_recv hK hI hG hc hv, gw_pre hK hI _⟩ rfl hn hsize rfl (lv_room hW) hdg hR.2.2.2) hI.2 (fun q _ h => h) (fun q h => h) (fun r u t H1 locs1 ht hvm hw hB hz1 hk1 hS => kk r u H1 locs1 hw ⟨by rw [← ht]; exact hB, hS⟩)
theorem gw_Sl {post : Int64 → gw_G → Prop} (M : CallFix p m c cc nL s args tb own) (hK : gw_K D Hs s) (hI : gw_I D Hs G H0 H locs) (hM : Met l y (Cond.code y bytes maxL ret :: tb) rm (gw_Pc D Hs G As) (gw_Ql D Hs post) mc ms (gw_A Hs)) (k : gk_S y bytes maxL ret n) (hl : Cond.methodLink own index y ∈ tb) (hn : As.length = n) (hsize : ls.size = nL) (hst : st = As.reverse ++ rest) (hW : (rest.map fun v => v.category).sum ≤ 8) (hR : gk_R rm R maxL mc ms cells slots) (hdg : decode cc pc = .ok (.invokestatic index, 3))
    (kk : ∀ (r : Int64) (G1 : gw_G) (H1 : Heap) (locs1 : List Loc), post r G1 → gw_I D Hs G1 H0 H1 locs1 → W p l e R s m args below meth c H1 locs1 (cells + mc) (slots + ms) Q (F0 m (pc + 3) ls (.long r :: rest))) : W p l e R s m args below meth c H locs cells slots Q (F0 m pc ls st) := by
  subst hst
  exact va_calll (va_runS (As := As) (rest := rest) M hM (gk_cwS M.2.2.2.2 hl k hR.1 hR.2.1 hR.2.2.1) ⟨gw_Pc.blind, gw_pre hK hI _⟩ rfl hn hsize rfl (lv_room hW) hdg hR.2.2.2) hI.2 (fun q _ h => h) (fun q h => h) (fun r u t H1 locs1 ht hvm hw hB hz1 hk1 hS => kk r u H1 locs1 hw ⟨by rw [← ht]; exact hB, hS⟩)
theorem gw_Vr {post : Nat → gw_G → Prop} (M : CallFix p m c cc nL s args tb own) (hK : gw_K D Hs s) (hI : gw_I D Hs G H0 H locs) (hM : Met l y (Cond.code y bytes maxL ret :: tb) rm (gw_Pc D Hs G (.ref b :: As)) (gw_Qr D Hs post) mc ms (gw_A Hs)) (k : gk_V y bytes maxL ret n) (hl : Cond.methodLink own index y ∈ tb) (hG : G b = some K) {T : u_T} {N ci : Nat} (hc : gcl[ci]? = some (y.cls, T, N)) (hv : ∀ x, K x → ∃ fs, x = .inr (ci, fs)) (hn : As.length = n) (hsize : ls.size = nL) (hst : st = As.reverse ++ .ref b :: rest) (hW : (rest.map fun v => v.category).sum ≤ 8) (hR : gk_R rm R maxL mc ms cells slots) (hdg : decode cc pc = .ok (.invokevirtual index, 3))
    (kk : ∀ (r : Nat) (G1 : gw_G) (H1 : Heap) (locs1 : List Loc), post r G1 → gw_I D Hs G1 H0 H1 locs1 → W p l e R s m args below meth c H1 locs1 (cells + mc) (slots + ms) Q (F0 m (pc + 3) ls (.ref r :: rest))) : W p l e R s m args below meth c H locs cells slots Q (F0 m pc ls st) := by
  subst hst
  exact va_callr (va_runV (As := As) (rest := rest) M hM (gk_cwV M.2.2.2.2 hl k hR.1 hR.2.1 hR.2.2.1) ⟨gw_Pc.blind, gw_recv hK hI hG hc hv, gw_pre hK hI _⟩ rfl hn hsize rfl (lv_room hW) hdg hR.2.2.2) hI.2 (fun q _ h => h) (fun q h => h) (fun u r t H1 locs1 ht hvm hw hB hz1 hk1 hS => kk r u H1 locs1 hB.2 ⟨by rw [← ht]; exact hB.1, hS⟩)
theorem gw_Sr {post : Nat → gw_G → Prop} (M : CallFix p m c cc nL s args tb own) (hK : gw_K D Hs s) (hI : gw_I D Hs G H0 H locs) (hM : Met l y (Cond.code y bytes maxL ret :: tb) rm (gw_Pc D Hs G As) (gw_Qr D Hs post) mc ms (gw_A Hs)) (k : gk_S y bytes maxL ret n) (hl : Cond.methodLink own index y ∈ tb) (hn : As.length = n) (hsize : ls.size = nL) (hst : st = As.reverse ++ rest) (hW : (rest.map fun v => v.category).sum ≤ 8) (hR : gk_R rm R maxL mc ms cells slots) (hdg : decode cc pc = .ok (.invokestatic index, 3))
    (kk : ∀ (r : Nat) (G1 : gw_G) (H1 : Heap) (locs1 : List Loc), post r G1 → gw_I D Hs G1 H0 H1 locs1 → W p l e R s m args below meth c H1 locs1 (cells + mc) (slots + ms) Q (F0 m (pc + 3) ls (.ref r :: rest))) : W p l e R s m args below meth c H locs cells slots Q (F0 m pc ls st) := by
  subst hst
  exact va_callr (va_runS (As := As) (rest := rest) M hM (gk_cwS M.2.2.2.2 hl k hR.1 hR.2.1 hR.2.2.1) ⟨gw_Pc.blind, gw_pre hK hI _⟩ rfl hn hsize rfl (lv_room hW) hdg hR.2.2.2) hI.2 (fun q _ h => h) (fun q h => h) (fun u r t H1 locs1 ht hvm hw hB hz1 hk1 hS => kk r u H1 locs1 hB.2 ⟨by rw [← ht]; exact hB.1, hS⟩)
/-- the cipher's static table -/
theorem gw_sub0 (M : CallFix p m c cc nL s args tb own) (hK : gw_K D Hs s) (hI : gw_I D Hs G H0 H locs) (hlink : Cond.fieldLink own index "GuardedPackets$Cipher" "SUB" "[I" ∈ tb) (hdg : decode cc pc = .ok (.getstatic index, 3))
    (kk : ∀ (t : Nat) (f : Nat → Int32), va_T .int t 256 (fun j => .int (f j)) (gw_A Hs) s Hs → W p l e R s m args below meth c H locs cells slots Q (F0 m (pc + 3) ls (.ref t :: rest))) : W p l e R s m args below meth c H locs cells slots Q (F0 m pc ls rest) := by
  obtain ⟨-, -, -, -, -, -, -, t, f, hZ, hT⟩ := hK
  obtain ⟨cf, kf, fi, fl, a1, cell, h1, h2, h3, h4, h5, h6, h7, h8⟩ := hZ
  have hlt : a1 < Hs.size := (Array.getElem?_eq_some_iff.mp h5).1
  exact W.gets M.1 M.2.1 M.2.2.2.1 (M.2.2.2.2 _ hlink) h1 h2 h3 h4 (by rw [hI.1.2.1 a1 hlt]; exact h5) (fun e => by rw [e] at h6; cases h6) h7 rfl hdg (kk t f hT)
theorem gw_sub1 (M : CallFix p m c cc nL s args tb own) (hI : gw_I D Hs G H0 H locs) {t : Nat} {f : Nat → Int32} (hT : va_T .int t 256 (fun j => .int (f j)) (gw_A Hs) s Hs) {i : Int32} (hin : vp_in i 256) (hdg : decode cc pc = .ok (.iaload, 1))
    (kk : ∀ x : Int32, W p l e R s m args below meth c H locs cells slots Q (F0 m (pc + 1) ls (.int x :: rest))) : W p l e R s m args below meth c H locs cells slots Q (F0 m pc ls (.int i :: .ref t :: rest)) := by
  obtain ⟨cell, h1, h2, h3, h4, h5, h6, h7⟩ := hT
  have hlt : i.toNatClampNeg < 256 := Nat.not_le.mp fun q => hin (Or.inr q)
  have htl : t < Hs.size := (Array.getElem?_eq_some_iff.mp h1).1
  have hin' : ¬ (i < 0 ∨ cell.slots.size ≤ i.toNatClampNeg) := by
    intro q
    rcases q with q | q
    · exact hin (Or.inl q)
    · omega
  exact W.iald (v := .int (f i.toNatClampNeg)) M.1 M.2.1 (by rw [hI.1.2.1 t htl]; exact h1) h2 h3 hin' (h6 _ hlt) rfl rfl hdg (kk _)
end GWC
end
