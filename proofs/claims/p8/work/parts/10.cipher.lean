theorem r_ushr24 (x : Int32) : vp_in ((x).toUInt32 >>> ((24 : Int32).toUInt32 &&& Int32.toUInt32 31)).toInt32 256 := by
  have h := pk_ushr x 24 24 (by decide)
  have h2 := x.toBitVec.isLt
  rw [vp_in_iff]
  have h3 : (((x).toUInt32 >>> ((24 : Int32).toUInt32 &&& Int32.toUInt32 31)).toInt32).toBitVec.toNat < 256 := by rw [h]; omega
  have h4 : (((x).toUInt32 >>> ((24 : Int32).toUInt32 &&& Int32.toUInt32 31)).toInt32).toInt = ((((x).toUInt32 >>> ((24 : Int32).toUInt32 &&& Int32.toUInt32 31)).toInt32).toBitVec.toNat : Int) := by
    rw [← Int32.toInt_toBitVec, BitVec.toInt_eq_toNat_of_lt (by omega)]
  omega
abbrev rm_Ci_turn : Room := { frames := 0, cells := 0, slots := 0, locals := 0 }
set_option maxHeartbeats 4000000 in
set_option maxRecDepth 100000 in
theorem c_Ci_turn (l : Launch) {D : gw_D} {Hs : Heap} {G : gw_G} (x y : Int32) : Met l y_Ci_turn (Cond.code y_Ci_turn b_Ci_turn 2 (some .int) :: tb) rm_Ci_turn (gw_Pc D Hs G [.int x, .int y]) (gw_Qi D Hs (fun _ G1 => G1 = G)) 0 0 (gw_A Hs) := by
  refine gw_met (by decide) (Nat.le_of_ble_eq_true rfl) ?_
  intro p e s m args below meth c M hK hr hlo hin hI ls hl
  have hx := M.1
  have hb := M.2.1
  have hl : lv_has ls 2 [(0, .int x), (1, .int y)] := hl
  refine lv_iload_n hx hb d_Ci_turn_0 rfl (lv_at hl 0 rfl) ?_
  refine lv_iload_n hx hb d_Ci_turn_1 rfl (lv_at hl 1 rfl) ?_
  refine lv_ishl hx hb d_Ci_turn_2 ?_
  refine lv_iload_n hx hb d_Ci_turn_3 rfl (lv_at hl 0 rfl) ?_
  refine lv_bipush (v := 32) hx hb d_Ci_turn_4 (by decide) ?_
  refine lv_iload_n hx hb d_Ci_turn_6 rfl (lv_at hl 1 rfl) ?_
  refine lv_isub hx hb d_Ci_turn_7 ?_
  refine lv_iushr hx hb d_Ci_turn_8 rfl ?_
  refine lv_ior hx hb d_Ci_turn_9 ?_
  exact gw_iret M hr hlo hI d_Ci_turn_10 rfl

abbrev rm_Ci_doubled : Room := { frames := 0, cells := 0, slots := 0, locals := 0 }
set_option maxHeartbeats 4000000 in
set_option maxRecDepth 100000 in
theorem c_Ci_doubled (l : Launch) {D : gw_D} {Hs : Heap} {G : gw_G} (x : Int32) : Met l y_Ci_doubled (Cond.code y_Ci_doubled b_Ci_doubled 1 (some .int) :: tb) rm_Ci_doubled (gw_Pc D Hs G [.int x]) (gw_Qi D Hs (fun _ G1 => G1 = G)) 0 0 (gw_A Hs) := by
  refine gw_met (by decide) (Nat.le_of_ble_eq_true rfl) ?_
  intro p e s m args below meth c M hK hr hlo hin hI ls hl
  have hx := M.1
  have hb := M.2.1
  have hl : lv_has ls 1 [(0, .int x)] := hl
  refine lv_iload_n hx hb d_Ci_doubled_0 rfl (lv_at hl 0 rfl) ?_
  refine lv_ldc (v := 2139062143) hx hb M.2.2.2.1 (M.2.2.2.2 _ o_Ci_44) d_Ci_doubled_1 ?_
  refine lv_iand hx hb d_Ci_doubled_3 ?_
  refine lv_iconst (v := 1) hx hb d_Ci_doubled_4 (by decide) ?_
  refine lv_ishl hx hb d_Ci_doubled_5 ?_
  refine lv_iload_n hx hb d_Ci_doubled_6 rfl (lv_at hl 0 rfl) ?_
  refine lv_bipush (v := 7) hx hb d_Ci_doubled_7 (by decide) ?_
  refine lv_iushr hx hb d_Ci_doubled_9 rfl ?_
  refine lv_ldc (v := 16843009) hx hb M.2.2.2.1 (M.2.2.2.2 _ o_Ci_45) d_Ci_doubled_10 ?_
  refine lv_iand hx hb d_Ci_doubled_12 ?_
  refine lv_bipush (v := 27) hx hb d_Ci_doubled_13 (by decide) ?_
  refine lv_imul hx hb d_Ci_doubled_15 ?_
  refine lv_ixor hx hb d_Ci_doubled_16 ?_
  exact gw_iret M hr hlo hI d_Ci_doubled_17 rfl

abbrev rm_Ci_unsigned : Room := { frames := 0, cells := 0, slots := 0, locals := 0 }
set_option maxHeartbeats 4000000 in
set_option maxRecDepth 100000 in
theorem c_Ci_unsigned (l : Launch) {D : gw_D} {Hs : Heap} {G : gw_G} (x : Int32) : Met l y_Ci_unsigned (Cond.code y_Ci_unsigned b_Ci_unsigned 1 (some .long) :: tb) rm_Ci_unsigned (gw_Pc D Hs G [.int x]) (gw_Ql D Hs (fun _ G1 => G1 = G)) 0 0 (gw_A Hs) := by
  refine gw_met (by decide) (Nat.le_of_ble_eq_true rfl) ?_
  intro p e s m args below meth c M hK hr hlo hin hI ls hl
  have hx := M.1
  have hb := M.2.1
  have hl : lv_has ls 1 [(0, .int x)] := hl
  refine lv_iload_n hx hb d_Ci_unsigned_0 rfl (lv_at hl 0 rfl) ?_
  refine lv_i2l hx hb d_Ci_unsigned_1 rfl ?_
  refine lv_ldc2 (v := 4294967295) hx hb M.2.2.2.1 (M.2.2.2.2 _ o_Ci_39) d_Ci_unsigned_2 ?_
  refine lv_land hx hb d_Ci_unsigned_5 ?_
  exact gw_lret M hr hlo hI d_Ci_unsigned_6 rfl

abbrev rm_Ci_subAcross : Room := { frames := 0, cells := 0, slots := 0, locals := 0 }
set_option maxHeartbeats 4000000 in
set_option maxRecDepth 100000 in
theorem c_Ci_subAcross (l : Launch) {D : gw_D} {Hs : Heap} {G : gw_G} (x1 x2 x3 x4 : Int32) : Met l y_Ci_subAcross (Cond.code y_Ci_subAcross b_Ci_subAcross 4 (some .int) :: tb) rm_Ci_subAcross (gw_Pc D Hs G [.int x1, .int x2, .int x3, .int x4]) (gw_Qi D Hs (fun _ G1 => G1 = G)) 0 0 (gw_A Hs) := by
  refine gw_met (by decide) (Nat.le_of_ble_eq_true rfl) ?_
  intro p e s m args below meth c M hK hr hlo hin hI ls hl
  have hx := M.1
  have hb := M.2.1
  have hl : lv_has ls 4 [(0, .int x1), (1, .int x2), (2, .int x3), (3, .int x4)] := hl
  refine gw_sub0 M hK hI f_Ci_41 d_Ci_subAcross_0 (fun tSUB1 f2 hT_tSUB1 => ?_)
  refine lv_iload_n hx hb d_Ci_subAcross_3 rfl (lv_at hl 0 rfl) ?_
  refine lv_bipush (v := 24) hx hb d_Ci_subAcross_4 (by decide) ?_
  refine lv_iushr hx hb d_Ci_subAcross_6 rfl ?_
  refine gw_sub1 M hI hT_tSUB1 (r_ushr24 _) d_Ci_subAcross_7 (fun x3 => ?_)
  refine lv_bipush (v := 24) hx hb d_Ci_subAcross_8 (by decide) ?_
  refine lv_ishl hx hb d_Ci_subAcross_10 ?_
  refine gw_sub0 M hK hI f_Ci_41 d_Ci_subAcross_11 (fun tSUB4 f5 hT_tSUB4 => ?_)
  refine lv_iload_n hx hb d_Ci_subAcross_14 rfl (lv_at hl 1 rfl) ?_
  refine lv_bipush (v := 16) hx hb d_Ci_subAcross_15 (by decide) ?_
  refine lv_iushr hx hb d_Ci_subAcross_17 rfl ?_
  refine lv_sipush (v := 255) hx hb d_Ci_subAcross_18 (by decide) ?_
  refine lv_iand hx hb d_Ci_subAcross_21 ?_
  refine gw_sub1 M hI hT_tSUB4 (pk_andIn _ 8 rfl (by decide)) d_Ci_subAcross_22 (fun x6 => ?_)
  refine lv_bipush (v := 16) hx hb d_Ci_subAcross_23 (by decide) ?_
  refine lv_ishl hx hb d_Ci_subAcross_25 ?_
  refine lv_ior hx hb d_Ci_subAcross_26 ?_
  refine gw_sub0 M hK hI f_Ci_41 d_Ci_subAcross_27 (fun tSUB7 f8 hT_tSUB7 => ?_)
  refine lv_iload_n hx hb d_Ci_subAcross_30 rfl (lv_at hl 2 rfl) ?_
  refine lv_bipush (v := 8) hx hb d_Ci_subAcross_31 (by decide) ?_
  refine lv_iushr hx hb d_Ci_subAcross_33 rfl ?_
  refine lv_sipush (v := 255) hx hb d_Ci_subAcross_34 (by decide) ?_
  refine lv_iand hx hb d_Ci_subAcross_37 ?_
  refine gw_sub1 M hI hT_tSUB7 (pk_andIn _ 8 rfl (by decide)) d_Ci_subAcross_38 (fun x9 => ?_)
  refine lv_bipush (v := 8) hx hb d_Ci_subAcross_39 (by decide) ?_
  refine lv_ishl hx hb d_Ci_subAcross_41 ?_
  refine lv_ior hx hb d_Ci_subAcross_42 ?_
  refine gw_sub0 M hK hI f_Ci_41 d_Ci_subAcross_43 (fun tSUB10 f11 hT_tSUB10 => ?_)
  refine lv_iload_n hx hb d_Ci_subAcross_46 rfl (lv_at hl 3 rfl) ?_
  refine lv_sipush (v := 255) hx hb d_Ci_subAcross_47 (by decide) ?_
  refine lv_iand hx hb d_Ci_subAcross_50 ?_
  refine gw_sub1 M hI hT_tSUB10 (pk_andIn _ 8 rfl (by decide)) d_Ci_subAcross_51 (fun x12 => ?_)
  refine lv_ior hx hb d_Ci_subAcross_52 ?_
  exact gw_iret M hr hlo hI d_Ci_subAcross_53 rfl

abbrev rm_Ci_mixed : Room := { frames := 1, cells := 0, slots := 0, locals := 21 }
set_option maxHeartbeats 4000000 in
set_option maxRecDepth 100000 in
theorem c_Ci_mixed (l : Launch) {D : gw_D} {Hs : Heap} {G : gw_G} (x : Int32) : Met l y_Ci_mixed (Cond.code y_Ci_mixed b_Ci_mixed 2 (some .int) :: tb) rm_Ci_mixed (gw_Pc D Hs G [.int x]) (gw_Qi D Hs (fun _ G1 => G1 = G)) 0 0 (gw_A Hs) := by
  refine gw_met (by decide) (Nat.le_of_ble_eq_true rfl) ?_
  intro p e s m args below meth c M hK hr hlo hin hI ls hl
  have hx := M.1
  have hb := M.2.1
  have hl : lv_has ls 2 [(0, .int x)] := hl
  refine lv_iload_n hx hb d_Ci_mixed_0 rfl (lv_at hl 0 rfl) ?_
  refine lv_bipush (v := 8) hx hb d_Ci_mixed_1 (by decide) ?_
  refine gw_Si (As := [.int x, .int 8]) (rest := []) M hK hI (c_Ci_turn l x 8) k_Ci_turn m_Ci_20 rfl hl.1 rfl (Nat.le_of_ble_eq_true rfl) ⟨rfl, rfl, ⟨Nat.le_of_ble_eq_true rfl, Nat.le_of_ble_eq_true rfl⟩, ⟨Nat.le_of_ble_eq_true rfl, Nat.le_of_ble_eq_true rfl⟩⟩ d_Ci_mixed_3 (fun x1 G9 H locs hw hI => ?_)
  rw [hw] at hI
  refine lv_istore_n (lv' := [(1, .int x1), (0, .int x)]) hx hb d_Ci_mixed_6 rfl hl (by decide) rfl (fun ls hl => ?_)
  refine lv_iload_n hx hb d_Ci_mixed_7 rfl (lv_at hl 1 rfl) ?_
  refine lv_iload_n hx hb d_Ci_mixed_8 rfl (lv_at hl 0 rfl) ?_
  refine lv_ixor hx hb d_Ci_mixed_9 ?_
  refine gw_Si (As := [.int (x ^^^ x1)]) (rest := []) M hK hI (c_Ci_doubled l (x ^^^ x1)) k_Ci_doubled m_Ci_28 rfl hl.1 rfl (Nat.le_of_ble_eq_true rfl) ⟨rfl, rfl, ⟨Nat.le_of_ble_eq_true rfl, Nat.le_of_ble_eq_true rfl⟩, ⟨Nat.le_of_ble_eq_true rfl, Nat.le_of_ble_eq_true rfl⟩⟩ d_Ci_mixed_10 (fun x2 G9 H locs hw hI => ?_)
  rw [hw] at hI
  refine lv_iload_n hx hb d_Ci_mixed_13 rfl (lv_at hl 0 rfl) ?_
  refine lv_ixor hx hb d_Ci_mixed_14 ?_
  refine lv_iload_n hx hb d_Ci_mixed_15 rfl (lv_at hl 1 rfl) ?_
  refine lv_bipush (v := 16) hx hb d_Ci_mixed_16 (by decide) ?_
  refine gw_Si (As := [.int x, .int 16]) (rest := [.int (x2 ^^^ x1)]) M hK hI (c_Ci_turn l x 16) k_Ci_turn m_Ci_20 rfl hl.1 rfl (Nat.le_of_ble_eq_true rfl) ⟨rfl, rfl, ⟨Nat.le_of_ble_eq_true rfl, Nat.le_of_ble_eq_true rfl⟩, ⟨Nat.le_of_ble_eq_true rfl, Nat.le_of_ble_eq_true rfl⟩⟩ d_Ci_mixed_18 (fun x3 G9 H locs hw hI => ?_)
  rw [hw] at hI
  refine lv_ixor hx hb d_Ci_mixed_21 ?_
  refine lv_iload_n hx hb d_Ci_mixed_22 rfl (lv_at hl 1 rfl) ?_
  refine lv_bipush (v := 24) hx hb d_Ci_mixed_23 (by decide) ?_
  refine gw_Si (As := [.int x, .int 24]) (rest := [.int ((x2 ^^^ x1) ^^^ x3)]) M hK hI (c_Ci_turn l x 24) k_Ci_turn m_Ci_20 rfl hl.1 rfl (Nat.le_of_ble_eq_true rfl) ⟨rfl, rfl, ⟨Nat.le_of_ble_eq_true rfl, Nat.le_of_ble_eq_true rfl⟩, ⟨Nat.le_of_ble_eq_true rfl, Nat.le_of_ble_eq_true rfl⟩⟩ d_Ci_mixed_25 (fun x4 G9 H locs hw hI => ?_)
  rw [hw] at hI
  refine lv_ixor hx hb d_Ci_mixed_28 ?_
  exact gw_iret M hr hlo hI d_Ci_mixed_29 rfl
