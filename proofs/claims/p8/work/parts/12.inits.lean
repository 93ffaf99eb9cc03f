abbrev rm_Ro_init : Room := { frames := 1, cells := 1, slots := 1000, locals := 20 }
set_option maxHeartbeats 4000000 in
set_option maxRecDepth 100000 in
theorem c_Ro_init (l : Launch) {D : gw_D} {Hs : Heap} {G : gw_G} (a n : Nat) (hn : n ≤ 1000) (hR : G a = some (kx (.inr (3, [.null, .int 0, .int 0])))) : Met l y_Ro_init (Cond.code y_Ro_init b_Ro_init 2 none :: tb) rm_Ro_init (gw_Pc D Hs G [.ref a, .int (nI n)]) (gw_Qv D Hs (fun G1 => ∃ q, G q = none ∧ G1 a = some (kx (.inr (3, [.ref q, .int 0, .int 0]))) ∧ G1 q = some (kA D 1 n tT) ∧ gw_fr (fun b => b = a) G G1)) 1 1000 (gw_A Hs) := by
  refine gw_met (by decide) (Nat.le_of_ble_eq_true rfl) ?_
  intro p e s m args below meth c M hK hr hlo hin hI ls hl
  have hx := M.1
  have hb := M.2.1
  have hl : lv_has ls 2 [(0, .ref a), (1, .int (nI n))] := hl
  have hf0 : gw_fr (fun b => b = a) G G := gw_fr.rf
  refine lv_aload_n hx hb d_Ro_init_0 rfl (lv_at hl 0 rfl) ?_
  refine W.objInit hx hb M.2.2.2.1 (M.2.2.2.2 _ m_Ro_1) (M.2.2.2.2 _ oi_1) (M.2.2.2.2 _ oi_2) rfl (by rw [M.2.2.1]; exact hl.1) rfl d_Ro_init_1 (Nat.le_of_ble_eq_true rfl) (Nat.le_of_ble_eq_true rfl) ?_
  refine W.eq (g2 := F0 m 4 ls []) rfl ?_
  refine lv_aload_n hx hb d_Ro_init_4 rfl (lv_at hl 0 rfl) ?_
  refine lv_iconst (v := 0) hx hb d_Ro_init_5 (by decide) ?_
  refine gw_put M hK hI hR i_Ro t_Ro tk_Ro n_Ro rfl 1 (by decide) f_Ro_7 rfl rfl rfl (kx (.inr (3, [.null, .int 0, .int 0]))) (fun x hx => ⟨_, hx, Nat.le_of_ble_eq_true rfl, rfl⟩) d_Ro_init_6 (fun H locs hI => ?_)
  generalize hE_G1 : gw_up G a (kx (.inr (3, [.null, .int 0, .int 0]))) = G1 at hI
  have hG2 : G1 a = some (kx (.inr (3, [.null, .int 0, .int 0]))) := by rw [← hE_G1]; exact gw_up_s
  have hf3 : gw_fr (fun b => b = a) G G1 := gw_fr.tr hf0 (by rw [← hE_G1]; exact gw_fr.up rfl)
  refine lv_aload_n hx hb d_Ro_init_9 rfl (lv_at hl 0 rfl) ?_
  refine lv_iconst (v := 0) hx hb d_Ro_init_10 (by decide) ?_
  refine gw_put M hK hI hG2 i_Ro t_Ro tk_Ro n_Ro rfl 2 (by decide) f_Ro_13 rfl rfl rfl (kx (.inr (3, [.null, .int 0, .int 0]))) (fun x hx => ⟨_, hx, Nat.le_of_ble_eq_true rfl, rfl⟩) d_Ro_init_11 (fun H locs hI => ?_)
  generalize hE_G4 : gw_up G1 a (kx (.inr (3, [.null, .int 0, .int 0]))) = G4 at hI
  have hG5 : G4 a = some (kx (.inr (3, [.null, .int 0, .int 0]))) := by rw [← hE_G4]; exact gw_up_s
  have hf6 : gw_fr (fun b => b = a) G G4 := gw_fr.tr hf3 (by rw [← hE_G4]; exact gw_fr.up rfl)
  refine lv_aload_n hx hb d_Ro_init_14 rfl (lv_at hl 0 rfl) ?_
  refine lv_iload_n hx hb d_Ro_init_15 rfl (lv_at hl 1 rfl) ?_
  refine gw_newa M hK hI (atype := .byte) a_byte 1 rfl (fun U cA h => h) (N' := n) (a0 := (n, .inl (fun _ => 0))) (fun cA => rfl) (nI_pos (by omega)) (nI_clamp (by omega)) (by show n * 1 ≤ _; omega) (Nat.le_of_ble_eq_true rfl) (by show 0 + n ≤ 1000; omega) (kA D 1 n tT) (⟨_, fun _ _ => trivial, rfl⟩) d_Ro_init_16 (fun q7 H hz8 hI => ?_)
  generalize hE_G9 : gw_up G4 q7 (kA D 1 n tT) = G9 at hI
  have hG10 : G9 q7 = some (kA D 1 n tT) := by rw [← hE_G9]; exact gw_up_s
  have hn12 : a ≠ q7 := fun q9 => by have h9 := hG5; rw [q9, hz8] at h9; cases h9
  have hG11 : G9 a = some (kx (.inr (3, [.null, .int 0, .int 0]))) := by rw [← hE_G9, gw_up_n hn12]; exact hG5
  have hy13 : G q7 = none := by
    cases h9 : G q7 with
    | none => rfl
    | some K9 => exact absurd (hf6 q7 K9 h9 (fun e9 => hn12 e9.symm)) (by rw [hz8]; exact fun h => by cases h)
  have hf14 : gw_fr (fun b => b = a) G G9 := gw_fr.tr hf6 (by rw [← hE_G9]; exact gw_fr.new hz8)
  refine gw_putF M hK hI hG11 i_Ro t_Ro tk_Ro n_Ro rfl 0 (by decide) f_Ro_17 rfl hin rfl rfl (kx (.inr (3, [.ref q7, .int 0, .int 0]))) (fun x hx => ⟨_, hx, Nat.le_of_ble_eq_true rfl, rfl⟩) d_Ro_init_18 (fun H locs hI => ?_)
  generalize hE_G15 : gw_up G9 a (kx (.inr (3, [.ref q7, .int 0, .int 0]))) = G15 at hI
  have hG16 : G15 a = some (kx (.inr (3, [.ref q7, .int 0, .int 0]))) := by rw [← hE_G15]; exact gw_up_s
  have hG17 : G15 q7 = some (kA D 1 n tT) := by rw [← hE_G15, gw_up_n hn12.symm]; exact hG10
  have hf18 : gw_fr (fun b => b = a) G G15 := gw_fr.tr hf14 (by rw [← hE_G15]; exact gw_fr.up rfl)
  refine W.widen (k := 1) (n := 1000) (by omega) (by omega) ?_
  exact gw_vret M hr hlo hI d_Ro_init_21 (⟨q7, hy13, hG16, hG17, hf18⟩)

abbrev rm_Ci_init : Room := { frames := 1, cells := 1, slots := 44, locals := 20 }
set_option maxHeartbeats 4000000 in
set_option maxRecDepth 100000 in
theorem c_Ci_init (l : Launch) {D : gw_D} {Hs : Heap} {G : gw_G} (a : Nat) (hR : G a = some (kx (.inr (2, [.null, .long 0, .long 0])))) : Met l y_Ci_init (Cond.code y_Ci_init b_Ci_init 1 none :: tb) rm_Ci_init (gw_Pc D Hs G [.ref a]) (gw_Qv D Hs (fun G1 => ∃ q, G q = none ∧ G1 a = some (kx (.inr (2, [.ref q, .long 0, .long 0]))) ∧ G1 q = some (kA D 0 44 tT) ∧ gw_fr (fun b => b = a) G G1)) 1 44 (gw_A Hs) := by
  refine gw_met (by decide) (Nat.le_of_ble_eq_true rfl) ?_
  intro p e s m args below meth c M hK hr hlo hin hI ls hl
  have hx := M.1
  have hb := M.2.1
  have hl : lv_has ls 1 [(0, .ref a)] := hl
  have hf0 : gw_fr (fun b => b = a) G G := gw_fr.rf
  refine lv_aload_n hx hb d_Ci_init_0 rfl (lv_at hl 0 rfl) ?_
  refine W.objInit hx hb M.2.2.2.1 (M.2.2.2.2 _ m_Ci_1) (M.2.2.2.2 _ oi_1) (M.2.2.2.2 _ oi_2) rfl (by rw [M.2.2.1]; exact hl.1) rfl d_Ci_init_1 (Nat.le_of_ble_eq_true rfl) (Nat.le_of_ble_eq_true rfl) ?_
  refine W.eq (g2 := F0 m 4 ls []) rfl ?_
  refine lv_aload_n hx hb d_Ci_init_4 rfl (lv_at hl 0 rfl) ?_
  refine lv_bipush (v := 44) hx hb d_Ci_init_5 (by decide) ?_
  refine gw_newa M hK hI (atype := .int) a_int 0 rfl (fun U cA h => h) (N' := 44) (a0 := (44, .inl (fun _ => 0))) (fun cA => rfl) (by decide) rfl (Nat.le_of_ble_eq_true rfl) (Nat.le_of_ble_eq_true rfl) (Nat.le_of_ble_eq_true rfl) (kA D 0 44 tT) (⟨_, fun _ _ => trivial, rfl⟩) d_Ci_init_7 (fun q1 H hz2 hI => ?_)
  generalize hE_G3 : gw_up G q1 (kA D 0 44 tT) = G3 at hI
  have hG4 : G3 q1 = some (kA D 0 44 tT) := by rw [← hE_G3]; exact gw_up_s
  have hn6 : a ≠ q1 := fun q9 => by have h9 := hR; rw [q9, hz2] at h9; cases h9
  have hG5 : G3 a = some (kx (.inr (2, [.null, .long 0, .long 0]))) := by rw [← hE_G3, gw_up_n hn6]; exact hR
  have hy7 : G q1 = none := by
    cases h9 : G q1 with
    | none => rfl
    | some K9 => exact absurd (hf0 q1 K9 h9 (fun e9 => hn6 e9.symm)) (by rw [hz2]; exact fun h => by cases h)
  have hf8 : gw_fr (fun b => b = a) G G3 := gw_fr.tr hf0 (by rw [← hE_G3]; exact gw_fr.new hz2)
  refine gw_putF M hK hI hG5 i_Ci t_Ci tk_Ci n_Ci rfl 0 (by decide) f_Ci_9 rfl hin rfl rfl (kx (.inr (2, [.ref q1, .long 0, .long 0]))) (fun x hx => ⟨_, hx, Nat.le_of_ble_eq_true rfl, rfl⟩) d_Ci_init_9 (fun H locs hI => ?_)
  generalize hE_G9 : gw_up G3 a (kx (.inr (2, [.ref q1, .long 0, .long 0]))) = G9 at hI
  have hG10 : G9 a = some (kx (.inr (2, [.ref q1, .long 0, .long 0]))) := by rw [← hE_G9]; exact gw_up_s
  have hG11 : G9 q1 = some (kA D 0 44 tT) := by rw [← hE_G9, gw_up_n hn6.symm]; exact hG4
  have hf12 : gw_fr (fun b => b = a) G G9 := gw_fr.tr hf8 (by rw [← hE_G9]; exact gw_fr.up rfl)
  refine lv_aload_n hx hb d_Ci_init_12 rfl (lv_at hl 0 rfl) ?_
  refine lv_lconst (v := 0) hx hb d_Ci_init_13 (by decide) ?_
  refine gw_put M hK hI hG10 i_Ci t_Ci tk_Ci n_Ci rfl 1 (by decide) f_Ci_13 rfl rfl rfl (kx (.inr (2, [.ref q1, .long 0, .long 0]))) (fun x hx => ⟨_, hx, Nat.le_of_ble_eq_true rfl, rfl⟩) d_Ci_init_14 (fun H locs hI => ?_)
  generalize hE_G13 : gw_up G9 a (kx (.inr (2, [.ref q1, .long 0, .long 0]))) = G13 at hI
  have hG14 : G13 a = some (kx (.inr (2, [.ref q1, .long 0, .long 0]))) := by rw [← hE_G13]; exact gw_up_s
  have hG15 : G13 q1 = some (kA D 0 44 tT) := by rw [← hE_G13, gw_up_n hn6.symm]; exact hG11
  have hf16 : gw_fr (fun b => b = a) G G13 := gw_fr.tr hf12 (by rw [← hE_G13]; exact gw_fr.up rfl)
  refine lv_aload_n hx hb d_Ci_init_17 rfl (lv_at hl 0 rfl) ?_
  refine lv_lconst (v := 0) hx hb d_Ci_init_18 (by decide) ?_
  refine gw_put M hK hI hG14 i_Ci t_Ci tk_Ci n_Ci rfl 2 (by decide) f_Ci_17 rfl rfl rfl (kx (.inr (2, [.ref q1, .long 0, .long 0]))) (fun x hx => ⟨_, hx, Nat.le_of_ble_eq_true rfl, rfl⟩) d_Ci_init_19 (fun H locs hI => ?_)
  generalize hE_G17 : gw_up G13 a (kx (.inr (2, [.ref q1, .long 0, .long 0]))) = G17 at hI
  have hG18 : G17 a = some (kx (.inr (2, [.ref q1, .long 0, .long 0]))) := by rw [← hE_G17]; exact gw_up_s
  have hG19 : G17 q1 = some (kA D 0 44 tT) := by rw [← hE_G17, gw_up_n hn6.symm]; exact hG15
  have hf20 : gw_fr (fun b => b = a) G G17 := gw_fr.tr hf16 (by rw [← hE_G17]; exact gw_fr.up rfl)
  exact gw_vret M hr hlo hI d_Ci_init_22 (⟨q1, hy7, hG18, hG19, hf20⟩)

abbrev rm_Wi_init : Room := { frames := 1, cells := 1, slots := 32, locals := 20 }
set_option maxHeartbeats 4000000 in
set_option maxRecDepth 100000 in
theorem c_Wi_init (l : Launch) {D : gw_D} {Hs : Heap} {G : gw_G} (a : Nat) (hR : G a = some (kx (.inr (4, [.null, .int 0, .long 0])))) : Met l y_Wi_init (Cond.code y_Wi_init b_Wi_init 1 none :: tb) rm_Wi_init (gw_Pc D Hs G [.ref a]) (gw_Qv D Hs (fun G1 => ∃ q, G q = none ∧ G1 a = some (kx (.inr (4, [.ref q, .int 1024, .long 0]))) ∧ G1 q = some (kA D 0 32 tT) ∧ gw_fr (fun b => b = a) G G1)) 1 32 (gw_A Hs) := by
  refine gw_met (by decide) (Nat.le_of_ble_eq_true rfl) ?_
  intro p e s m args below meth c M hK hr hlo hin hI ls hl
  have hx := M.1
  have hb := M.2.1
  have hl : lv_has ls 1 [(0, .ref a)] := hl
  have hf0 : gw_fr (fun b => b = a) G G := gw_fr.rf
  refine lv_aload_n hx hb d_Wi_init_0 rfl (lv_at hl 0 rfl) ?_
  refine W.objInit hx hb M.2.2.2.1 (M.2.2.2.2 _ m_Wi_3) (M.2.2.2.2 _ oi_1) (M.2.2.2.2 _ oi_2) rfl (by rw [M.2.2.1]; exact hl.1) rfl d_Wi_init_1 (Nat.le_of_ble_eq_true rfl) (Nat.le_of_ble_eq_true rfl) ?_
  refine W.eq (g2 := F0 m 4 ls []) rfl ?_
  refine lv_aload_n hx hb d_Wi_init_4 rfl (lv_at hl 0 rfl) ?_
  refine lv_bipush (v := 32) hx hb d_Wi_init_5 (by decide) ?_
  refine gw_newa M hK hI (atype := .int) a_int 0 rfl (fun U cA h => h) (N' := 32) (a0 := (32, .inl (fun _ => 0))) (fun cA => rfl) (by decide) rfl (Nat.le_of_ble_eq_true rfl) (Nat.le_of_ble_eq_true rfl) (Nat.le_of_ble_eq_true rfl) (kA D 0 32 tT) (⟨_, fun _ _ => trivial, rfl⟩) d_Wi_init_7 (fun q1 H hz2 hI => ?_)
  generalize hE_G3 : gw_up G q1 (kA D 0 32 tT) = G3 at hI
  have hG4 : G3 q1 = some (kA D 0 32 tT) := by rw [← hE_G3]; exact gw_up_s
  have hn6 : a ≠ q1 := fun q9 => by have h9 := hR; rw [q9, hz2] at h9; cases h9
  have hG5 : G3 a = some (kx (.inr (4, [.null, .int 0, .long 0]))) := by rw [← hE_G3, gw_up_n hn6]; exact hR
  have hy7 : G q1 = none := by
    cases h9 : G q1 with
    | none => rfl
    | some K9 => exact absurd (hf0 q1 K9 h9 (fun e9 => hn6 e9.symm)) (by rw [hz2]; exact fun h => by cases h)
  have hf8 : gw_fr (fun b => b = a) G G3 := gw_fr.tr hf0 (by rw [← hE_G3]; exact gw_fr.new hz2)
  refine gw_putF M hK hI hG5 i_Wi t_Wi tk_Wi n_Wi rfl 0 (by decide) f_Wi_9 rfl hin rfl rfl (kx (.inr (4, [.ref q1, .int 0, .long 0]))) (fun x hx => ⟨_, hx, Nat.le_of_ble_eq_true rfl, rfl⟩) d_Wi_init_9 (fun H locs hI => ?_)
  generalize hE_G9 : gw_up G3 a (kx (.inr (4, [.ref q1, .int 0, .long 0]))) = G9 at hI
  have hG10 : G9 a = some (kx (.inr (4, [.ref q1, .int 0, .long 0]))) := by rw [← hE_G9]; exact gw_up_s
  have hG11 : G9 q1 = some (kA D 0 32 tT) := by rw [← hE_G9, gw_up_n hn6.symm]; exact hG4
  have hf12 : gw_fr (fun b => b = a) G G9 := gw_fr.tr hf8 (by rw [← hE_G9]; exact gw_fr.up rfl)
  refine lv_aload_n hx hb d_Wi_init_12 rfl (lv_at hl 0 rfl) ?_
  refine lv_sipush (v := 1024) hx hb d_Wi_init_13 (by decide) ?_
  refine gw_put M hK hI hG10 i_Wi t_Wi tk_Wi n_Wi rfl 1 (by decide) f_Wi_15 rfl rfl rfl (kx (.inr (4, [.ref q1, .int 1024, .long 0]))) (fun x hx => ⟨_, hx, Nat.le_of_ble_eq_true rfl, rfl⟩) d_Wi_init_16 (fun H locs hI => ?_)
  generalize hE_G13 : gw_up G9 a (kx (.inr (4, [.ref q1, .int 1024, .long 0]))) = G13 at hI
  have hG14 : G13 a = some (kx (.inr (4, [.ref q1, .int 1024, .long 0]))) := by rw [← hE_G13]; exact gw_up_s
  have hG15 : G13 q1 = some (kA D 0 32 tT) := by rw [← hE_G13, gw_up_n hn6.symm]; exact hG11
  have hf16 : gw_fr (fun b => b = a) G G13 := gw_fr.tr hf12 (by rw [← hE_G13]; exact gw_fr.up rfl)
  refine lv_aload_n hx hb d_Wi_init_19 rfl (lv_at hl 0 rfl) ?_
  refine lv_lconst (v := 0) hx hb d_Wi_init_20 (by decide) ?_
  refine gw_put M hK hI hG14 i_Wi t_Wi tk_Wi n_Wi rfl 2 (by decide) f_Wi_19 rfl rfl rfl (kx (.inr (4, [.ref q1, .int 1024, .long 0]))) (fun x hx => ⟨_, hx, Nat.le_of_ble_eq_true rfl, rfl⟩) d_Wi_init_21 (fun H locs hI => ?_)
  generalize hE_G17 : gw_up G13 a (kx (.inr (4, [.ref q1, .int 1024, .long 0]))) = G17 at hI
  have hG18 : G17 a = some (kx (.inr (4, [.ref q1, .int 1024, .long 0]))) := by rw [← hE_G17]; exact gw_up_s
  have hG19 : G17 q1 = some (kA D 0 32 tT) := by rw [← hE_G17, gw_up_n hn6.symm]; exact hG15
  have hf20 : gw_fr (fun b => b = a) G G17 := gw_fr.tr hf16 (by rw [← hE_G17]; exact gw_fr.up rfl)
  exact gw_vret M hr hlo hI d_Wi_init_24 (⟨q1, hy7, hG18, hG19, hf20⟩)

abbrev rm_Ch_init : Room := { frames := 1, cells := 0, slots := 0, locals := 20 }
set_option maxHeartbeats 4000000 in
set_option maxRecDepth 100000 in
theorem c_Ch_init (l : Launch) {D : gw_D} {Hs : Heap} {G : gw_G} (a : Nat) (hR : G a = some (kx (.inr (1, [.long 0, .long 0])))) : Met l y_Ch_init (Cond.code y_Ch_init b_Ch_init 1 none :: tb) rm_Ch_init (gw_Pc D Hs G [.ref a]) (gw_Qv D Hs (fun G1 => G1 a = some (kx (.inr (1, [.long 0, .long 0]))) ∧ gw_fr (fun b => b = a) G G1)) 0 0 (gw_A Hs) := by
  refine gw_met (by decide) (Nat.le_of_ble_eq_true rfl) ?_
  intro p e s m args below meth c M hK hr hlo hin hI ls hl
  have hx := M.1
  have hb := M.2.1
  have hl : lv_has ls 1 [(0, .ref a)] := hl
  have hf0 : gw_fr (fun b => b = a) G G := gw_fr.rf
  refine lv_aload_n hx hb d_Ch_init_0 rfl (lv_at hl 0 rfl) ?_
  refine W.objInit hx hb M.2.2.2.1 (M.2.2.2.2 _ m_Ch_3) (M.2.2.2.2 _ oi_1) (M.2.2.2.2 _ oi_2) rfl (by rw [M.2.2.1]; exact hl.1) rfl d_Ch_init_1 (Nat.le_of_ble_eq_true rfl) (Nat.le_of_ble_eq_true rfl) ?_
  refine W.eq (g2 := F0 m 4 ls []) rfl ?_
  refine lv_aload_n hx hb d_Ch_init_4 rfl (lv_at hl 0 rfl) ?_
  refine lv_lconst (v := 0) hx hb d_Ch_init_5 (by decide) ?_
  refine gw_put M hK hI hR i_Ch t_Ch tk_Ch n_Ch rfl 0 (by decide) f_Ch_9 rfl rfl rfl (kx (.inr (1, [.long 0, .long 0]))) (fun x hx => ⟨_, hx, Nat.le_of_ble_eq_true rfl, rfl⟩) d_Ch_init_6 (fun H locs hI => ?_)
  generalize hE_G1 : gw_up G a (kx (.inr (1, [.long 0, .long 0]))) = G1 at hI
  have hG2 : G1 a = some (kx (.inr (1, [.long 0, .long 0]))) := by rw [← hE_G1]; exact gw_up_s
  have hf3 : gw_fr (fun b => b = a) G G1 := gw_fr.tr hf0 (by rw [← hE_G1]; exact gw_fr.up rfl)
  refine lv_aload_n hx hb d_Ch_init_9 rfl (lv_at hl 0 rfl) ?_
  refine lv_lconst (v := 0) hx hb d_Ch_init_10 (by decide) ?_
  refine gw_put M hK hI hG2 i_Ch t_Ch tk_Ch n_Ch rfl 1 (by decide) f_Ch_15 rfl rfl rfl (kx (.inr (1, [.long 0, .long 0]))) (fun x hx => ⟨_, hx, Nat.le_of_ble_eq_true rfl, rfl⟩) d_Ch_init_11 (fun H locs hI => ?_)
  generalize hE_G4 : gw_up G1 a (kx (.inr (1, [.long 0, .long 0]))) = G4 at hI
  have hG5 : G4 a = some (kx (.inr (1, [.long 0, .long 0]))) := by rw [← hE_G4]; exact gw_up_s
  have hf6 : gw_fr (fun b => b = a) G G4 := gw_fr.tr hf3 (by rw [← hE_G4]; exact gw_fr.up rfl)
  exact gw_vret M hr hlo hI d_Ch_init_14 (⟨hG5, hf6⟩)
