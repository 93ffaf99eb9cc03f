theorem z64 (x : Int64) : ((0 : Int32).toInt64 <<< x) = 0 := by
  apply Int64.toBitVec_inj.mp
  rw [Int64.toBitVec_shiftLeft]
  show (0#64) <<< _ = 0#64
  exact BitVec.zero_shiftLeft _

abbrev rm_Ro_at : Room := { frames := 0, cells := 0, slots := 0, locals := 0 }
set_option maxHeartbeats 4000000 in
set_option maxRecDepth 100000 in
theorem c_Ro_at (l : Launch) {D : gw_D} {Hs : Heap} {G : gw_G} (a q : Nat) (i0 : Int64) (h1 : G a = some (kx (.inr (3, [.ref q, .int 0, .int 0])))) : Met l y_Ro_at (Cond.code y_Ro_at b_Ro_at 3 (some .int) :: tb) rm_Ro_at (gw_Pc D Hs G [.ref a, .long i0]) (gw_Qi D Hs (fun r G1 => r = 0 ∧ G1 = G)) 0 0 (gw_A Hs) := by
  refine gw_met (by decide) (Nat.le_of_ble_eq_true rfl) ?_
  intro p e s m args below meth c M hK hr hlo hin hI ls hl
  have hx := M.1
  have hb := M.2.1
  have hl : lv_has ls 3 [(0, .ref a), (1, .long i0)] := hl
  refine lv_lload_n hx hb d_Ro_at_0 rfl (lv_at hl 1 rfl) ?_
  refine lv_lconst (v := 0) hx hb d_Ro_at_1 (by decide) ?_
  refine W.lcmp hx hb d_Ro_at_2 ?_
  refine lv_if_lt (tgt := 30) hx hb d_Ro_at_3 (by decide) (fun c_3 => ?_) (fun c_3 => ?_)
  · refine lv_iconst (v := 0) hx hb d_Ro_at_30 (by decide) ?_
    exact gw_iret M hr hlo hI d_Ro_at_31 (⟨rfl, rfl⟩)
  · refine lv_lload_n hx hb d_Ro_at_6 rfl (lv_at hl 1 rfl) ?_
    refine lv_aload_n hx hb d_Ro_at_7 rfl (lv_at hl 0 rfl) ?_
    refine gw_get M hK hI h1 i_Ro rfl 1 (by decide) f_Ro_7 rfl (Pv := fun v => v = .int 0) (fun x hx => ⟨_, _, hx, rfl, rfl⟩) d_Ro_at_8 (fun v hv => ?_)
    subst hv
    refine lv_i2l hx hb d_Ro_at_11 rfl ?_
    refine W.lcmp hx hb d_Ro_at_12 ?_
    refine lv_if_ge (tgt := 30) hx hb d_Ro_at_13 (by decide) (fun c_13 => ?_) (fun q9 => absurd ((lg_cmp_ge _ _).mpr (Int64.not_lt.mp (fun q9 => c_3 ((lg_cmp_lt _ _).mpr q9)))) q9)
    refine lv_iconst (v := 0) hx hb d_Ro_at_30 (by decide) ?_
    exact gw_iret M hr hlo hI d_Ro_at_31 (⟨rfl, rfl⟩)

abbrev rm_Ro_eightFrom : Room := { frames := 1, cells := 0, slots := 0, locals := 22 }
set_option maxHeartbeats 4000000 in
set_option maxRecDepth 100000 in
theorem c_Ro_eightFrom (l : Launch) {D : gw_D} {Hs : Heap} {G : gw_G} (a q : Nat) (i0 : Int32) (h1 : G a = some (kx (.inr (3, [.ref q, .int 0, .int 0])))) : Met l y_Ro_eightFrom (Cond.code y_Ro_eightFrom b_Ro_eightFrom 5 (some .long) :: tb) rm_Ro_eightFrom (gw_Pc D Hs G [.ref a, .int i0]) (gw_Ql D Hs (fun r G1 => r = 0 ∧ G1 = G)) 0 0 (gw_A Hs) := by
  refine gw_met (by decide) (Nat.le_of_ble_eq_true rfl) ?_
  intro p e s m args below meth c M hK hr hlo hin hI ls hl
  have hx := M.1
  have hb := M.2.1
  have hl : lv_has ls 5 [(0, .ref a), (1, .int i0)] := hl
  refine lv_lconst (v := 0) hx hb d_Ro_eightFrom_0 (by decide) ?_
  refine lv_lstore_n (lv' := [(2, .long 0), (0, .ref a), (1, .int i0)]) hx hb d_Ro_eightFrom_1 rfl hl (by decide) rfl (fun ls hl => ?_)
  refine lv_iconst (v := 0) hx hb d_Ro_eightFrom_2 (by decide) ?_
  refine lv_istore (lv' := [(4, .int 0), (2, .long 0), (0, .ref a), (1, .int i0)]) hx hb d_Ro_eightFrom_3 hl (by decide) rfl (fun ls hl => ?_)
  have L_5 : ∀ (n9 : Nat) (k : Nat) (y2 : Int64) (y4 : Int32) (H : Heap) (locs : List Loc) (ls : Array Slot), k ≤ 8 → y4 = nI k → y2 = 0 → 8 - k < n9 → gw_I D Hs G s.heap H locs → lv_has ls 5 [(4, .int y4), (2, .long y2), (0, .ref a), (1, .int i0)] → W p l e rm_Ro_eightFrom s m args below meth c H locs 0 0 (MQ below (gw_Ql D Hs (fun r G1 => r = 0 ∧ G1 = G)) args s 0 0 (gw_A Hs)) (F0 m 5 ls []) := by
    intro n9
    induction n9 with
    | zero =>
      intro k y2 y4 H locs ls h8 hk h20 hm hI hl
      exact absurd hm (Nat.not_lt_zero _)
    | succ n9 ih_5 =>
      intro k y2 y4 H locs ls h8 hk h20 hm_5 hI hl
      refine lv_iload hx hb d_Ro_eightFrom_5 (lv_at hl 0 rfl) ?_
      refine lv_bipush (v := 8) hx hb d_Ro_eightFrom_7 (by decide) ?_
      refine lv_icmp_ge (tgt := 38) hx hb d_Ro_eightFrom_9 (by decide) (fun c_9 => ?_) (fun c_9 => ?_)
      · refine lv_lload_n hx hb d_Ro_eightFrom_38 rfl (lv_at hl 1 rfl) ?_
        exact gw_lret M hr hlo hI d_Ro_eightFrom_39 (⟨h20, rfl⟩)
      · have hlt : k < 8 := nb_lt (n := 8) hk c_9 (by decide) (z_31 h8)
        refine lv_lload_n hx hb d_Ro_eightFrom_12 rfl (lv_at hl 1 rfl) ?_
        refine lv_aload_n hx hb d_Ro_eightFrom_13 rfl (lv_at hl 2 rfl) ?_
        refine lv_iload_n hx hb d_Ro_eightFrom_14 rfl (lv_at hl 3 rfl) ?_
        refine lv_i2l hx hb d_Ro_eightFrom_15 rfl ?_
        refine lv_iload hx hb d_Ro_eightFrom_16 (lv_at hl 0 rfl) ?_
        refine lv_i2l hx hb d_Ro_eightFrom_18 rfl ?_
        refine lv_ladd hx hb d_Ro_eightFrom_19 ?_
        refine gw_Vi (As := [.long (((i0).toInt64) + ((y4).toInt64))]) (rest := [.long y2]) M hK hI (c_Ro_at l a q (((i0).toInt64) + ((y4).toInt64)) h1) k_Ro_at m_Ro_25 h1 (ci := 3) rfl (fun x hx => ⟨_, hx⟩) rfl hl.1 rfl (Nat.le_of_ble_eq_true rfl) ⟨rfl, rfl, ⟨Nat.le_of_ble_eq_true rfl, Nat.le_of_ble_eq_true rfl⟩, ⟨Nat.le_of_ble_eq_true rfl, Nat.le_of_ble_eq_true rfl⟩⟩ d_Ro_eightFrom_20 (fun x1 G9 H locs hw hI => ?_)
        obtain ⟨h_x1, hw⟩ := hw
        rw [hw] at hI
        subst h_x1
        refine lv_i2l hx hb d_Ro_eightFrom_23 rfl ?_
        refine lv_bipush (v := 8) hx hb d_Ro_eightFrom_24 (by decide) ?_
        refine lv_iload hx hb d_Ro_eightFrom_26 (lv_at hl 0 rfl) ?_
        refine lv_imul hx hb d_Ro_eightFrom_28 ?_
        refine lv_lshl hx hb d_Ro_eightFrom_29 rfl ?_
        refine lv_lor hx hb d_Ro_eightFrom_30 ?_
        refine lv_topl (fun x2 e_x2 => ?_)
        refine lv_lstore_n (lv' := [(2, .long x2), (4, .int y4), (0, .ref a), (1, .int i0)]) hx hb d_Ro_eightFrom_31 rfl hl (by decide) rfl (fun ls hl => ?_)
        obtain ⟨x3, e_x3⟩ : ∃ ww9 : Int32, ww9 = y4 + 1 := ⟨_, rfl⟩
        refine lv_iinc (v := x3) (lv' := [(4, .int x3), (2, .long x2), (0, .ref a), (1, .int i0)]) hx hb d_Ro_eightFrom_32 hl (k := 1) rfl (by rw [e_x3]; rfl) (by decide) rfl (fun ls hl => ?_)
        refine lv_goto (tgt := 5) hx hb d_Ro_eightFrom_35 (by decide) ?_
        exact ih_5 (k + 1) x2 x3 _ _ _ hlt (nb_s e_x3 hk) (by rw [e_x2, h20, z64]; rfl) (z_m hm_5 hlt) hI (lv_sub hl [0, 1, 2, 3] rfl)
  exact L_5 _ 0 0 0 _ _ _ (Nat.zero_le _) rfl rfl (Nat.lt_succ_self _) hI (lv_sub hl [0, 1, 2, 3] rfl)

abbrev rm_Ro_shorten : Room := { frames := 0, cells := 0, slots := 0, locals := 0 }
set_option maxHeartbeats 4000000 in
set_option maxRecDepth 100000 in
theorem c_Ro_shorten (l : Launch) {D : gw_D} {Hs : Heap} {G : gw_G} (a q : Nat) (h1 : G a = some (kx (.inr (3, [.ref q, .int 0, .int 0])))) : Met l y_Ro_shorten (Cond.code y_Ro_shorten b_Ro_shorten 2 none :: tb) rm_Ro_shorten (gw_Pc D Hs G [.ref a, .int 0]) (gw_Qv D Hs (fun G1 => G1 = G)) 0 0 (gw_A Hs) := by
  refine gw_met (by decide) (Nat.le_of_ble_eq_true rfl) ?_
  intro p e s m args below meth c M hK hr hlo hin hI ls hl
  have hx := M.1
  have hb := M.2.1
  have hl : lv_has ls 2 [(0, .ref a), (1, .int 0)] := hl
  refine lv_iload_n hx hb d_Ro_shorten_0 rfl (lv_at hl 1 rfl) ?_
  refine lv_if_lt (tgt := 17) hx hb d_Ro_shorten_1 (by decide) (fun q9 => absurd q9 (by decide)) (fun c_1 => ?_)
  refine lv_iload_n hx hb d_Ro_shorten_4 rfl (lv_at hl 1 rfl) ?_
  refine lv_aload_n hx hb d_Ro_shorten_5 rfl (lv_at hl 0 rfl) ?_
  refine gw_get M hK hI h1 i_Ro rfl 1 (by decide) f_Ro_7 rfl (Pv := fun v => v = .int 0) (fun x hx => ⟨_, _, hx, rfl, rfl⟩) d_Ro_shorten_6 (fun v hv => ?_)
  subst hv
  refine lv_icmp_ge (tgt := 17) hx hb d_Ro_shorten_9 (by decide) (fun c_9 => ?_) (fun q9 => absurd (by decide) q9)
  exact gw_vret M hr hlo hI d_Ro_shorten_17 rfl

abbrev rm_Ro_append : Room := { frames := 0, cells := 0, slots := 0, locals := 0 }
set_option maxHeartbeats 4000000 in
set_option maxRecDepth 100000 in
theorem c_Ro_append (l : Launch) {D : gw_D} {Hs : Heap} {G : gw_G} (a q k n : Nat) (x0 t0 : Int32) (hk : k < n) (hn : n < 1000) (h1 : G a = some (kx (.inr (3, [.ref q, .int (nI k), .int t0])))) (h2 : G q = some (kA D 1 n tT)) : Met l y_Ro_append (Cond.code y_Ro_append b_Ro_append 2 none :: tb) rm_Ro_append (gw_Pc D Hs G [.ref a, .int x0]) (gw_Qv D Hs (fun G1 => G1 = gw_up G a (kx (.inr (3, [.ref q, .int (nI (k + 1)), .int t0]))))) 0 0 (gw_A Hs) := by
  refine gw_met (by decide) (Nat.le_of_ble_eq_true rfl) ?_
  intro p e s m args below meth c M hK hr hlo hin hI ls hl
  have hx := M.1
  have hb := M.2.1
  have hl : lv_has ls 2 [(0, .ref a), (1, .int x0)] := hl
  refine lv_aload_n hx hb d_Ro_append_0 rfl (lv_at hl 0 rfl) ?_
  refine gw_get M hK hI h1 i_Ro rfl 1 (by decide) f_Ro_7 rfl (Pv := fun v => v = .int (nI k)) (fun x hx => ⟨_, _, hx, rfl, rfl⟩) d_Ro_append_1 (fun v hv => ?_)
  subst hv
  refine lv_aload_n hx hb d_Ro_append_4 rfl (lv_at hl 0 rfl) ?_
  refine gw_get M hK hI h1 i_Ro rfl 0 (by decide) f_Ro_17 rfl (Pv := fun v => v = .ref q) (fun x hx => ⟨_, _, hx, rfl, rfl⟩) d_Ro_append_5 (fun v hv => ?_)
  subst hv
  refine gw_alen M hK hI h2 1 n rfl (fun x hx => by obtain ⟨f9, h9, q9⟩ := hx; exact ⟨_, q9⟩) d_Ro_append_8 ?_
  refine lv_icmp_ge (tgt := 33) hx hb d_Ro_append_9 (by decide) (fun q9 => absurd q9 (nI_ge hk (by omega))) (fun c_9 => ?_)
  refine lv_aload_n hx hb d_Ro_append_12 rfl (lv_at hl 0 rfl) ?_
  refine gw_get M hK hI h1 i_Ro rfl 0 (by decide) f_Ro_17 rfl (Pv := fun v => v = .ref q) (fun x hx => ⟨_, _, hx, rfl, rfl⟩) d_Ro_append_13 (fun v hv => ?_)
  subst hv
  refine lv_aload_n hx hb d_Ro_append_16 rfl (lv_at hl 0 rfl) ?_
  refine gw_get M hK hI h1 i_Ro rfl 1 (by decide) f_Ro_7 rfl (Pv := fun v => v = .int (nI k)) (fun x hx => ⟨_, _, hx, rfl, rfl⟩) d_Ro_append_17 (fun v hv => ?_)
  subst hv
  refine lv_iload_n hx hb d_Ro_append_20 rfl (lv_at hl 1 rfl) ?_
  refine lv_i2b hx hb d_Ro_append_21 rfl ?_
  refine lv_topi (fun x1 e_x1 => ?_)
  refine gw_bast M hK hI h2 (vp_in_nI hk (by omega)) trivial d_Ro_append_22 (fun H locs hI => ?_)
  refine lv_aload_n hx hb d_Ro_append_23 rfl (lv_at hl 0 rfl) ?_
  refine lv_dup hx hb d_Ro_append_24 rfl ?_
  refine gw_get M hK hI h1 i_Ro rfl 1 (by decide) f_Ro_7 rfl (Pv := fun v => v = .int (nI k)) (fun x hx => ⟨_, _, hx, rfl, rfl⟩) d_Ro_append_25 (fun v hv => ?_)
  subst hv
  refine lv_iconst (v := 1) hx hb d_Ro_append_28 (by decide) ?_
  refine lv_iadd hx hb d_Ro_append_29 ?_
  refine lv_topi (fun x2 e_x2 => ?_)
  refine gw_put M hK hI h1 i_Ro t_Ro tk_Ro n_Ro rfl 1 (by decide) f_Ro_7 rfl rfl rfl (kx (.inr (3, [.ref q, .int x2, .int t0]))) (fun x hx => ⟨_, hx, Nat.le_of_ble_eq_true rfl, rfl⟩) d_Ro_append_30 (fun H locs hI => ?_)
  obtain ⟨G3, hE_G3⟩ : ∃ z9, gw_up G a (kx (.inr (3, [.ref q, .int x2, .int t0]))) = z9 := ⟨_, rfl⟩
  rw [hE_G3] at hI
  have hG5 : G3 a = some (kx (.inr (3, [.ref q, .int x2, .int t0]))) := by rw [← hE_G3]; exact gw_up_s
  have hs4 : gw_fr (fun b => b = a) G G3 := by rw [← hE_G3]; exact gw_fr.up rfl
  exact gw_vret M hr hlo hI d_Ro_append_33 (by rw [← hE_G3, e_x2, nI_1])

abbrev rm_Ro_appendRow : Room := { frames := 0, cells := 0, slots := 0, locals := 0 }
set_option maxHeartbeats 4000000 in
set_option maxRecDepth 100000 in
theorem c_Ro_appendRow (l : Launch) {D : gw_D} {Hs : Heap} {G : gw_G} (a b2 : Nat) : Met l y_Ro_appendRow (Cond.code y_Ro_appendRow b_Ro_appendRow 5 none :: tb) rm_Ro_appendRow (gw_Pc D Hs G [.ref a, .ref b2, .int 0, .int 0]) (gw_Qv D Hs (fun G1 => G1 = G)) 0 0 (gw_A Hs) := by
  refine gw_met (by decide) (Nat.le_of_ble_eq_true rfl) ?_
  intro p e s m args below meth c M hK hr hlo hin hI ls hl
  have hx := M.1
  have hb := M.2.1
  have hl : lv_has ls 5 [(0, .ref a), (1, .ref b2), (2, .int 0), (3, .int 0)] := hl
  refine lv_iload_n hx hb d_Ro_appendRow_0 rfl (lv_at hl 2 rfl) ?_
  refine lv_istore (lv' := [(4, .int 0), (0, .ref a), (1, .ref b2), (2, .int 0), (3, .int 0)]) hx hb d_Ro_appendRow_1 hl (by decide) rfl (fun ls hl => ?_)
  refine lv_iload hx hb d_Ro_appendRow_3 (lv_at hl 0 rfl) ?_
  refine lv_iload_n hx hb d_Ro_appendRow_5 rfl (lv_at hl 4 rfl) ?_
  refine lv_icmp_ge (tgt := 26) hx hb d_Ro_appendRow_6 (by decide) (fun c_6 => ?_) (fun q9 => absurd (by decide) q9)
  exact gw_vret M hr hlo hI d_Ro_appendRow_26 rfl

abbrev rm_Ro_become : Room := { frames := 1, cells := 0, slots := 0, locals := 24 }
set_option maxHeartbeats 4000000 in
set_option maxRecDepth 100000 in
theorem c_Ro_become (l : Launch) {D : gw_D} {Hs : Heap} {G : gw_G} (a b2 q q2 : Nat) (h1 : G a = some (kx (.inr (3, [.ref q, .int 0, .int 0])))) (h2 : G b2 = some (kx (.inr (3, [.ref q2, .int 0, .int 0])))) (hne : b2 ≠ a) : Met l y_Ro_become (Cond.code y_Ro_become b_Ro_become 2 none :: tb) rm_Ro_become (gw_Pc D Hs G [.ref a, .ref b2]) (gw_Qv D Hs (fun G1 => G1 = G)) 0 0 (gw_A Hs) := by
  refine gw_met (by decide) (Nat.le_of_ble_eq_true rfl) ?_
  intro p e s m args below meth c M hK hr hlo hin hI ls hl
  have hx := M.1
  have hb := M.2.1
  have hl : lv_has ls 2 [(0, .ref a), (1, .ref b2)] := hl
  refine lv_aload_n hx hb d_Ro_become_0 rfl (lv_at hl 0 rfl) ?_
  refine lv_iconst (v := 0) hx hb d_Ro_become_1 (by decide) ?_
  refine gw_put M hK hI h1 i_Ro t_Ro tk_Ro n_Ro rfl 1 (by decide) f_Ro_7 rfl rfl rfl (kx (.inr (3, [.ref q, .int 0, .int 0]))) (fun x hx => ⟨_, hx, Nat.le_of_ble_eq_true rfl, rfl⟩) d_Ro_become_2 (fun H locs hI => ?_)
  obtain ⟨G1, hE_G1⟩ : ∃ z9, gw_up G a (kx (.inr (3, [.ref q, .int 0, .int 0]))) = z9 := ⟨_, rfl⟩
  rw [hE_G1] at hI
  have hG3 : G1 a = some (kx (.inr (3, [.ref q, .int 0, .int 0]))) := by rw [← hE_G1]; exact gw_up_s
  have hs2 : gw_fr (fun b => b = a) G G1 := by rw [← hE_G1]; exact gw_fr.up rfl
  refine lv_aload_n hx hb d_Ro_become_5 rfl (lv_at hl 0 rfl) ?_
  refine lv_aload_n hx hb d_Ro_become_6 rfl (lv_at hl 1 rfl) ?_
  refine lv_iconst (v := 0) hx hb d_Ro_become_7 (by decide) ?_
  refine lv_aload_n hx hb d_Ro_become_8 rfl (lv_at hl 1 rfl) ?_
  have hG4 : G1 b2 = some (kx (.inr (3, [.ref q2, .int 0, .int 0]))) := (hs2 b2 _ h2 hne)
  refine gw_get M hK hI hG4 i_Ro rfl 1 (by decide) f_Ro_7 rfl (Pv := fun v => v = .int 0) (fun x hx => ⟨_, _, hx, rfl, rfl⟩) d_Ro_become_9 (fun v hv => ?_)
  subst hv
  refine gw_Vv (As := [.ref b2, .int 0, .int 0]) (rest := []) M hK hI (c_Ro_appendRow l a b2) k_Ro_appendRow m_Ro_29 hG3 (ci := 3) rfl (fun x hx => ⟨_, hx⟩) rfl hl.1 rfl (Nat.le_of_ble_eq_true rfl) ⟨rfl, rfl, ⟨Nat.le_of_ble_eq_true rfl, Nat.le_of_ble_eq_true rfl⟩, ⟨Nat.le_of_ble_eq_true rfl, Nat.le_of_ble_eq_true rfl⟩⟩ d_Ro_become_12 (fun G9 H locs hw hI => ?_)
  rw [hw] at hI
  refine lv_aload_n hx hb d_Ro_become_15 rfl (lv_at hl 0 rfl) ?_
  refine lv_aload_n hx hb d_Ro_become_16 rfl (lv_at hl 1 rfl) ?_
  refine gw_get M hK hI hG4 i_Ro rfl 2 (by decide) f_Ro_13 rfl (Pv := fun v => v = .int 0) (fun x hx => ⟨_, _, hx, rfl, rfl⟩) d_Ro_become_17 (fun v hv => ?_)
  subst hv
  refine gw_put M hK hI hG3 i_Ro t_Ro tk_Ro n_Ro rfl 2 (by decide) f_Ro_13 rfl rfl rfl (kx (.inr (3, [.ref q, .int 0, .int 0]))) (fun x hx => ⟨_, hx, Nat.le_of_ble_eq_true rfl, rfl⟩) d_Ro_become_20 (fun H locs hI => ?_)
  obtain ⟨G6, hE_G6⟩ : ∃ z9, gw_up G1 a (kx (.inr (3, [.ref q, .int 0, .int 0]))) = z9 := ⟨_, rfl⟩
  rw [hE_G6] at hI
  have hG8 : G6 a = some (kx (.inr (3, [.ref q, .int 0, .int 0]))) := by rw [← hE_G6]; exact gw_up_s
  have hs7 : gw_fr (fun b => b = a) G1 G6 := by rw [← hE_G6]; exact gw_fr.up rfl
  exact gw_vret M hr hlo hI d_Ro_become_23 (by rw [← hE_G6, ← hE_G1]; simp only [gw_up_up]; exact gw_up_id h1)

abbrev rm_Gp_drop : Room := { frames := 1, cells := 0, slots := 0, locals := 22 }
set_option maxHeartbeats 4000000 in
set_option maxRecDepth 100000 in
theorem c_Gp_drop (l : Launch) {D : gw_D} {Hs : Heap} {G : gw_G} (n1 : Int32) (o arr fed sent places plain gained check : Nat) (hO : G o = some (kx (.inr (5, [.ref arr, .int 0, .ref fed, .ref sent, .ref places, .ref plain, .ref gained, .ref check])))) : Met l y_Gp_drop (Cond.code y_Gp_drop b_Gp_drop 5 (some .boolean) :: tb) rm_Gp_drop (gw_Pc D Hs G [.ref o, .int n1]) (gw_Qi D Hs (fun r G1 => r = 0 ∧ G1 = G)) 0 0 (gw_A Hs) := by
  refine gw_met (by decide) (Nat.le_of_ble_eq_true rfl) ?_
  intro p e s m args below meth c M hK hr hlo hin hI ls hl
  have hx := M.1
  have hb := M.2.1
  have hl : lv_has ls 5 [(0, .ref o), (1, .int n1)] := hl
  refine lv_aload_n hx hb d_Gp_drop_0 rfl (lv_at hl 0 rfl) ?_
  refine lv_iload_n hx hb d_Gp_drop_1 rfl (lv_at hl 1 rfl) ?_
  refine gp_V (As := [.int n1]) (rest := []) M hK hI (c_Gp_placeOf l n1 o arr fed sent places plain gained check hO) k_Gp_placeOf m_Gp_56 hO (ci := 5) rfl (fun x hx => ⟨_, hx⟩) rfl hl.1 rfl (Nat.le_of_ble_eq_true rfl) ⟨rfl, rfl, ⟨Nat.le_of_ble_eq_true rfl, Nat.le_of_ble_eq_true rfl⟩, ⟨Nat.le_of_ble_eq_true rfl, Nat.le_of_ble_eq_true rfl⟩⟩ d_Gp_drop_2 (fun x1 h_x1 => ?_)
  subst h_x1
  refine lv_istore_n (lv' := [(2, .int 0), (0, .ref o), (1, .int n1)]) hx hb d_Gp_drop_5 rfl hl (by decide) rfl (fun ls hl => ?_)
  refine lv_aload_n hx hb d_Gp_drop_6 rfl (lv_at hl 1 rfl) ?_
  refine lv_iload_n hx hb d_Gp_drop_7 rfl (lv_at hl 0 rfl) ?_
  refine lv_iload_n hx hb d_Gp_drop_8 rfl (lv_at hl 2 rfl) ?_
  refine gp_V (As := [.int 0, .int n1]) (rest := []) M hK hI (c_Gp_isAt l n1 o arr fed sent places plain gained check hO) k_Gp_isAt m_Gp_60 hO (ci := 5) rfl (fun x hx => ⟨_, hx⟩) rfl hl.1 rfl (Nat.le_of_ble_eq_true rfl) ⟨rfl, rfl, ⟨Nat.le_of_ble_eq_true rfl, Nat.le_of_ble_eq_true rfl⟩, ⟨Nat.le_of_ble_eq_true rfl, Nat.le_of_ble_eq_true rfl⟩⟩ d_Gp_drop_9 (fun x2 h_x2 => ?_)
  subst h_x2
  refine lv_if_ne (tgt := 17) hx hb d_Gp_drop_12 (by decide) (fun q9 => absurd (by decide) q9) (fun c_12 => ?_)
  refine lv_iconst (v := 0) hx hb d_Gp_drop_15 (by decide) ?_
  exact gw_zret M hr rfl hlo hI d_Gp_drop_16 (⟨rfl, rfl⟩)

abbrev rm_Gp_wipe : Room := { frames := 1, cells := 0, slots := 0, locals := 21 }
set_option maxHeartbeats 4000000 in
set_option maxRecDepth 100000 in
theorem c_Gp_wipe (l : Launch) {D : gw_D} {Hs : Heap} {G : gw_G}  (o arr fed sent places plain gained check : Nat) (hO : G o = some (kx (.inr (5, [.ref arr, .int 0, .ref fed, .ref sent, .ref places, .ref plain, .ref gained, .ref check])))) (fq : Nat) (hF : G fed = some (kx (.inr (3, [.ref fq, .int 0, .int 0])))) (hbF : G fq = some (kA D 1 200 tT)) : Met l y_Gp_wipe (Cond.code y_Gp_wipe b_Gp_wipe 2 (some .int) :: tb) rm_Gp_wipe (gw_Pc D Hs G [.ref o]) (gw_Qi D Hs (fun r G1 => r = 0 ∧ G1 = G)) 0 0 (gw_A Hs) := by
  refine gw_met (by decide) (Nat.le_of_ble_eq_true rfl) ?_
  intro p e s m args below meth c M hK hr hlo hin hI ls hl
  have hx := M.1
  have hb := M.2.1
  have hl : lv_has ls 2 [(0, .ref o)] := hl
  refine lv_aload_n hx hb d_Gp_wipe_0 rfl (lv_at hl 0 rfl) ?_
  refine gw_get M hK hI hO i_Gp rfl 2 (by decide) f_Gp_24 rfl (Pv := fun v => v = .ref fed) (fun x hx => ⟨_, _, hx, rfl, rfl⟩) d_Gp_wipe_1 (fun v hv => ?_)
  subst hv
  refine gw_get M hK hI hF i_Ro rfl 1 (by decide) f_Gp_87 rfl (Pv := fun v => v = .int 0) (fun x hx => ⟨_, _, hx, rfl, rfl⟩) d_Gp_wipe_4 (fun v hv => ?_)
  subst hv
  refine lv_istore_n (lv' := [(1, .int 0), (0, .ref o)]) hx hb d_Gp_wipe_7 rfl hl (by decide) rfl (fun ls hl => ?_)
  refine lv_aload_n hx hb d_Gp_wipe_8 rfl (lv_at hl 1 rfl) ?_
  refine gw_get M hK hI hO i_Gp rfl 2 (by decide) f_Gp_24 rfl (Pv := fun v => v = .ref fed) (fun x hx => ⟨_, _, hx, rfl, rfl⟩) d_Gp_wipe_9 (fun v hv => ?_)
  subst hv
  refine lv_iconst (v := 0) hx hb d_Gp_wipe_12 (by decide) ?_
  refine gw_Vv (As := [.int 0]) (rest := []) M hK hI (c_Ro_shorten l fed fq hF) k_Ro_shorten m_Gp_93 hF (ci := 3) rfl (fun x hx => ⟨_, hx⟩) rfl hl.1 rfl (Nat.le_of_ble_eq_true rfl) ⟨rfl, rfl, ⟨Nat.le_of_ble_eq_true rfl, Nat.le_of_ble_eq_true rfl⟩, ⟨Nat.le_of_ble_eq_true rfl, Nat.le_of_ble_eq_true rfl⟩⟩ d_Gp_wipe_13 (fun G9 H locs hw hI => ?_)
  rw [hw] at hI
  refine lv_iload_n hx hb d_Gp_wipe_16 rfl (lv_at hl 0 rfl) ?_
  exact gw_iret M hr hlo hI d_Gp_wipe_17 (⟨rfl, rfl⟩)

abbrev rm_Gp_size : Room := { frames := 0, cells := 0, slots := 0, locals := 0 }
set_option maxHeartbeats 4000000 in
set_option maxRecDepth 100000 in
theorem c_Gp_size (l : Launch) {D : gw_D} {Hs : Heap} {G : gw_G}  (o arr fed sent places plain gained check : Nat) (hO : G o = some (kx (.inr (5, [.ref arr, .int 0, .ref fed, .ref sent, .ref places, .ref plain, .ref gained, .ref check])))) (sq : Nat) (hS : G sent = some (kx (.inr (3, [.ref sq, .int 0, .int 0])))) (hbS : G sq = some (kA D 1 236 tT)) : Met l y_Gp_size (Cond.code y_Gp_size b_Gp_size 1 (some .int) :: tb) rm_Gp_size (gw_Pc D Hs G [.ref o]) (gw_Qi D Hs (fun r G1 => r = 0 ∧ G1 = G)) 0 0 (gw_A Hs) := by
  refine gw_met (by decide) (Nat.le_of_ble_eq_true rfl) ?_
  intro p e s m args below meth c M hK hr hlo hin hI ls hl
  have hx := M.1
  have hb := M.2.1
  have hl : lv_has ls 1 [(0, .ref o)] := hl
  refine lv_aload_n hx hb d_Gp_size_0 rfl (lv_at hl 0 rfl) ?_
  refine gw_get M hK hI hO i_Gp rfl 3 (by decide) f_Gp_28 rfl (Pv := fun v => v = .ref sent) (fun x hx => ⟨_, _, hx, rfl, rfl⟩) d_Gp_size_1 (fun v hv => ?_)
  subst hv
  refine gw_get M hK hI hS i_Ro rfl 1 (by decide) f_Gp_87 rfl (Pv := fun v => v = .int 0) (fun x hx => ⟨_, _, hx, rfl, rfl⟩) d_Gp_size_4 (fun v hv => ?_)
  subst hv
  exact gw_iret M hr hlo hI d_Gp_size_7 (⟨rfl, rfl⟩)

abbrev rm_Gp_got : Room := { frames := 0, cells := 0, slots := 0, locals := 0 }
set_option maxHeartbeats 4000000 in
set_option maxRecDepth 100000 in
theorem c_Gp_got (l : Launch) {D : gw_D} {Hs : Heap} {G : gw_G}  (o arr fed sent places plain gained check : Nat) (hO : G o = some (kx (.inr (5, [.ref arr, .int 0, .ref fed, .ref sent, .ref places, .ref plain, .ref gained, .ref check])))) (gq : Nat) (hN : G gained = some (kx (.inr (3, [.ref gq, .int 0, .int 0])))) (hbN : G gq = some (kA D 1 204 tT)) : Met l y_Gp_got (Cond.code y_Gp_got b_Gp_got 1 (some .int) :: tb) rm_Gp_got (gw_Pc D Hs G [.ref o]) (gw_Qi D Hs (fun r G1 => r = 0 ∧ G1 = G)) 0 0 (gw_A Hs) := by
  refine gw_met (by decide) (Nat.le_of_ble_eq_true rfl) ?_
  intro p e s m args below meth c M hK hr hlo hin hI ls hl
  have hx := M.1
  have hb := M.2.1
  have hl : lv_has ls 1 [(0, .ref o)] := hl
  refine lv_aload_n hx hb d_Gp_got_0 rfl (lv_at hl 0 rfl) ?_
  refine gw_get M hK hI hO i_Gp rfl 6 (by decide) f_Gp_38 rfl (Pv := fun v => v = .ref gained) (fun x hx => ⟨_, _, hx, rfl, rfl⟩) d_Gp_got_1 (fun v hv => ?_)
  subst hv
  refine gw_get M hK hI hN i_Ro rfl 1 (by decide) f_Gp_87 rfl (Pv := fun v => v = .int 0) (fun x hx => ⟨_, _, hx, rfl, rfl⟩) d_Gp_got_4 (fun v hv => ?_)
  subst hv
  exact gw_iret M hr hlo hI d_Gp_got_7 (⟨rfl, rfl⟩)

abbrev rm_Gp_packet : Room := { frames := 2, cells := 0, slots := 0, locals := 46 }
set_option maxHeartbeats 4000000 in
set_option maxRecDepth 100000 in
theorem c_Gp_packet (l : Launch) {D : gw_D} {Hs : Heap} {G : gw_G} (i0 : Int32) (o arr fed sent places plain gained check : Nat) (hO : G o = some (kx (.inr (5, [.ref arr, .int 0, .ref fed, .ref sent, .ref places, .ref plain, .ref gained, .ref check])))) (sq : Nat) (hS : G sent = some (kx (.inr (3, [.ref sq, .int 0, .int 0])))) (hbS : G sq = some (kA D 1 236 tT)) : Met l y_Gp_packet (Cond.code y_Gp_packet b_Gp_packet 2 (some .long) :: tb) rm_Gp_packet (gw_Pc D Hs G [.ref o, .int i0]) (gw_Ql D Hs (fun r G1 => r = 0 ∧ G1 = G)) 0 0 (gw_A Hs) := by
  refine gw_met (by decide) (Nat.le_of_ble_eq_true rfl) ?_
  intro p e s m args below meth c M hK hr hlo hin hI ls hl
  have hx := M.1
  have hb := M.2.1
  have hl : lv_has ls 2 [(0, .ref o), (1, .int i0)] := hl
  refine lv_aload_n hx hb d_Gp_packet_0 rfl (lv_at hl 0 rfl) ?_
  refine gw_get M hK hI hO i_Gp rfl 3 (by decide) f_Gp_28 rfl (Pv := fun v => v = .ref sent) (fun x hx => ⟨_, _, hx, rfl, rfl⟩) d_Gp_packet_1 (fun v hv => ?_)
  subst hv
  refine lv_iload_n hx hb d_Gp_packet_4 rfl (lv_at hl 1 rfl) ?_
  refine gw_Vl (As := [.int i0]) (rest := []) M hK hI (c_Ro_eightFrom l sent sq i0 hS) k_Ro_eightFrom m_Gp_125 hS (ci := 3) rfl (fun x hx => ⟨_, hx⟩) rfl hl.1 rfl (Nat.le_of_ble_eq_true rfl) ⟨rfl, rfl, ⟨Nat.le_of_ble_eq_true rfl, Nat.le_of_ble_eq_true rfl⟩, ⟨Nat.le_of_ble_eq_true rfl, Nat.le_of_ble_eq_true rfl⟩⟩ d_Gp_packet_5 (fun x1 G9 H locs hw hI => ?_)
  obtain ⟨h_x1, hw⟩ := hw
  rw [hw] at hI
  subst h_x1
  exact gw_lret M hr hlo hI d_Gp_packet_8 (⟨rfl, rfl⟩)

abbrev rm_Gp_data : Room := { frames := 2, cells := 0, slots := 0, locals := 46 }
set_option maxHeartbeats 4000000 in
set_option maxRecDepth 100000 in
theorem c_Gp_data (l : Launch) {D : gw_D} {Hs : Heap} {G : gw_G} (i0 : Int32) (o arr fed sent places plain gained check : Nat) (hO : G o = some (kx (.inr (5, [.ref arr, .int 0, .ref fed, .ref sent, .ref places, .ref plain, .ref gained, .ref check])))) (gq : Nat) (hN : G gained = some (kx (.inr (3, [.ref gq, .int 0, .int 0])))) (hbN : G gq = some (kA D 1 204 tT)) : Met l y_Gp_data (Cond.code y_Gp_data b_Gp_data 2 (some .long) :: tb) rm_Gp_data (gw_Pc D Hs G [.ref o, .int i0]) (gw_Ql D Hs (fun r G1 => r = 0 ∧ G1 = G)) 0 0 (gw_A Hs) := by
  refine gw_met (by decide) (Nat.le_of_ble_eq_true rfl) ?_
  intro p e s m args below meth c M hK hr hlo hin hI ls hl
  have hx := M.1
  have hb := M.2.1
  have hl : lv_has ls 2 [(0, .ref o), (1, .int i0)] := hl
  refine lv_aload_n hx hb d_Gp_data_0 rfl (lv_at hl 0 rfl) ?_
  refine gw_get M hK hI hO i_Gp rfl 6 (by decide) f_Gp_38 rfl (Pv := fun v => v = .ref gained) (fun x hx => ⟨_, _, hx, rfl, rfl⟩) d_Gp_data_1 (fun v hv => ?_)
  subst hv
  refine lv_iload_n hx hb d_Gp_data_4 rfl (lv_at hl 1 rfl) ?_
  refine gw_Vl (As := [.int i0]) (rest := []) M hK hI (c_Ro_eightFrom l gained gq i0 hN) k_Ro_eightFrom m_Gp_125 hN (ci := 3) rfl (fun x hx => ⟨_, hx⟩) rfl hl.1 rfl (Nat.le_of_ble_eq_true rfl) ⟨rfl, rfl, ⟨Nat.le_of_ble_eq_true rfl, Nat.le_of_ble_eq_true rfl⟩, ⟨Nat.le_of_ble_eq_true rfl, Nat.le_of_ble_eq_true rfl⟩⟩ d_Gp_data_5 (fun x1 G9 H locs hw hI => ?_)
  obtain ⟨h_x1, hw⟩ := hw
  rw [hw] at hI
  subst h_x1
  exact gw_lret M hr hlo hI d_Gp_data_8 (⟨rfl, rfl⟩)

abbrev rm_Gp_open : Room := { frames := 0, cells := 0, slots := 0, locals := 0 }
set_option maxHeartbeats 4000000 in
set_option maxRecDepth 100000 in
theorem c_Gp_open (l : Launch) {D : gw_D} {Hs : Heap} {G : gw_G}  (o arr fed sent places plain gained check : Nat) (hO : G o = some (kx (.inr (5, [.ref arr, .int 0, .ref fed, .ref sent, .ref places, .ref plain, .ref gained, .ref check])))) (sq : Nat) (hS : G sent = some (kx (.inr (3, [.ref sq, .int 0, .int 0])))) (hbS : G sq = some (kA D 1 236 tT)) : Met l y_Gp_open (Cond.code y_Gp_open b_Gp_open 6 (some .int) :: tb) rm_Gp_open (gw_Pc D Hs G [.ref o]) (gw_Qi D Hs (fun r G1 => r = -1 ∧ G1 = G)) 0 0 (gw_A Hs) := by
  refine gw_met (by decide) (Nat.le_of_ble_eq_true rfl) ?_
  intro p e s m args below meth c M hK hr hlo hin hI ls hl
  have hx := M.1
  have hb := M.2.1
  have hl : lv_has ls 6 [(0, .ref o)] := hl
  refine lv_aload_n hx hb d_Gp_open_0 rfl (lv_at hl 0 rfl) ?_
  refine gw_get M hK hI hO i_Gp rfl 3 (by decide) f_Gp_28 rfl (Pv := fun v => v = .ref sent) (fun x hx => ⟨_, _, hx, rfl, rfl⟩) d_Gp_open_1 (fun v hv => ?_)
  subst hv
  refine gw_get M hK hI hS i_Ro rfl 1 (by decide) f_Gp_87 rfl (Pv := fun v => v = .int 0) (fun x hx => ⟨_, _, hx, rfl, rfl⟩) d_Gp_open_4 (fun v hv => ?_)
  subst hv
  refine lv_bipush (v := 36) hx hb d_Gp_open_7 (by decide) ?_
  refine lv_icmp_lt (tgt := 24) hx hb d_Gp_open_9 (by decide) (fun c_9 => ?_) (fun q9 => absurd (by decide) q9)
  refine lv_iconst (v := (-1)) hx hb d_Gp_open_24 (by decide) ?_
  exact gw_iret M hr hlo hI d_Gp_open_25 (⟨rfl, rfl⟩)

abbrev rm_Gp_name : Room := { frames := 0, cells := 0, slots := 0, locals := 0 }
set_option maxHeartbeats 4000000 in
set_option maxRecDepth 100000 in
theorem c_Gp_name (l : Launch) {D : gw_D} {Hs : Heap} {G : gw_G} (n1 : Int32) (o arr fed sent places plain gained check : Nat) (hO : G o = some (kx (.inr (5, [.ref arr, .int 0, .ref fed, .ref sent, .ref places, .ref plain, .ref gained, .ref check])))) : Met l y_Gp_name (Cond.code y_Gp_name b_Gp_name 2 (some .int) :: tb) rm_Gp_name (gw_Pc D Hs G [.ref o, .int n1]) (gw_Qi D Hs (fun r G1 => r = -1 ∧ G1 = G)) 0 0 (gw_A Hs) := by
  refine gw_met (by decide) (Nat.le_of_ble_eq_true rfl) ?_
  intro p e s m args below meth c M hK hr hlo hin hI ls hl
  have hx := M.1
  have hb := M.2.1
  have hl : lv_has ls 2 [(0, .ref o), (1, .int n1)] := hl
  refine lv_iload_n hx hb d_Gp_name_0 rfl (lv_at hl 1 rfl) ?_
  refine lv_if_lt (tgt := 24) hx hb d_Gp_name_1 (by decide) (fun c_1 => ?_) (fun c_1 => ?_)
  · refine lv_iconst (v := (-1)) hx hb d_Gp_name_24 (by decide) ?_
    exact gw_iret M hr hlo hI d_Gp_name_25 (⟨rfl, rfl⟩)
  · refine lv_iload_n hx hb d_Gp_name_4 rfl (lv_at hl 1 rfl) ?_
    refine lv_aload_n hx hb d_Gp_name_5 rfl (lv_at hl 0 rfl) ?_
    refine gw_get M hK hI hO i_Gp rfl 1 (by decide) f_Gp_15 rfl (Pv := fun v => v = .int 0) (fun x hx => ⟨_, _, hx, rfl, rfl⟩) d_Gp_name_6 (fun v hv => ?_)
    subst hv
    refine lv_icmp_ge (tgt := 24) hx hb d_Gp_name_9 (by decide) (fun c_9 => ?_) (fun q9 => absurd (Int32.not_lt.mp c_1) q9)
    refine lv_iconst (v := (-1)) hx hb d_Gp_name_24 (by decide) ?_
    exact gw_iret M hr hlo hI d_Gp_name_25 (⟨rfl, rfl⟩)

abbrev rm_Gp_spoilx : Room := { frames := 6, cells := 1, slots := 6, locals := 100 }
set_option maxHeartbeats 4000000 in
set_option maxRecDepth 100000 in
theorem c_Gp_spoilx (l : Launch) (htr : l.stackTraces = false) {D : gw_D} {Hs : Heap} {G : gw_G} (n1 n2 : Int32) (o arr fed sent places plain gained check : Nat) (hO : G o = some (kx (.inr (5, [.ref arr, .int 0, .ref fed, .ref sent, .ref places, .ref plain, .ref gained, .ref check])))) (sq : Nat) (hS : G sent = some (kx (.inr (3, [.ref sq, .int 0, .int 0])))) (hbS : G sq = some (kA D 1 236 tT)) : xt_Met l y_Gp_spoil b_Gp_spoil 4 (some .int) rm_Gp_spoilx D Hs G [.ref o, .int n1, .int n2] "java/lang/IndexOutOfBoundsException" 1 6 := by
  refine xt_met (by decide) (Nat.le_of_ble_eq_true rfl) ?_
  intro p e s m args below meth c M hK hlo hex hI ls hl
  have hx := M.1
  have hb := M.2.1
  have hl : lv_has ls 4 [(0, .ref o), (1, .int n1), (2, .int n2)] := hl
  refine lv_iload_n hx hb d_Gp_spoil_0 rfl (lv_at hl 1 rfl) ?_
  refine lv_if_lt (tgt := 15) hx hb d_Gp_spoil_1 (by decide) (fun c_1 => ?_) (fun c_1 => ?_)
  · exact xt_throw M hK hI htr hlo hex (names := ["java/lang/RuntimeException", "java/lang/Exception"]) (ic := 131) (by decide +kernel) (by decide +kernel) q_Gp_129 z_IOE j_IOE at_IOE hl.1 d_Gp_spoil_15 d_Gp_spoil_18 d_Gp_spoil_19 d_Gp_spoil_22 (by decide) (by decide) (by decide) (by decide)
  · refine lv_iload_n hx hb d_Gp_spoil_4 rfl (lv_at hl 1 rfl) ?_
    refine lv_aload_n hx hb d_Gp_spoil_5 rfl (lv_at hl 0 rfl) ?_
    refine gw_get M hK hI hO i_Gp rfl 3 (by decide) f_Gp_28 rfl (Pv := fun v => v = .ref sent) (fun x hx => ⟨_, _, hx, rfl, rfl⟩) d_Gp_spoil_6 (fun v hv => ?_)
    subst hv
    refine gw_get M hK hI hS i_Ro rfl 1 (by decide) f_Gp_87 rfl (Pv := fun v => v = .int 0) (fun x hx => ⟨_, _, hx, rfl, rfl⟩) d_Gp_spoil_9 (fun v hv => ?_)
    subst hv
    refine lv_icmp_lt (tgt := 23) hx hb d_Gp_spoil_12 (by decide) (fun q9 => absurd q9 c_1) (fun c_12 => ?_)
    exact xt_throw M hK hI htr hlo hex (names := ["java/lang/RuntimeException", "java/lang/Exception"]) (ic := 131) (by decide +kernel) (by decide +kernel) q_Gp_129 z_IOE j_IOE at_IOE hl.1 d_Gp_spoil_15 d_Gp_spoil_18 d_Gp_spoil_19 d_Gp_spoil_22 (by decide) (by decide) (by decide) (by decide)

abbrev rm_Gp_cutx : Room := { frames := 6, cells := 1, slots := 6, locals := 100 }
set_option maxHeartbeats 4000000 in
set_option maxRecDepth 100000 in
theorem c_Gp_cutx (l : Launch) (htr : l.stackTraces = false) {D : gw_D} {Hs : Heap} {G : gw_G} (n1 : Int32) (h10 : ¬ n1 = 0) (o arr fed sent places plain gained check : Nat) (hO : G o = some (kx (.inr (5, [.ref arr, .int 0, .ref fed, .ref sent, .ref places, .ref plain, .ref gained, .ref check])))) (sq : Nat) (hS : G sent = some (kx (.inr (3, [.ref sq, .int 0, .int 0])))) (hbS : G sq = some (kA D 1 236 tT)) : xt_Met l y_Gp_cut b_Gp_cut 2 none rm_Gp_cutx D Hs G [.ref o, .int n1] "java/lang/IllegalArgumentException" 1 6 := by
  refine xt_met (by decide) (Nat.le_of_ble_eq_true rfl) ?_
  intro p e s m args below meth c M hK hlo hex hI ls hl
  have hx := M.1
  have hb := M.2.1
  have hl : lv_has ls 2 [(0, .ref o), (1, .int n1)] := hl
  refine lv_iload_n hx hb d_Gp_cut_0 rfl (lv_at hl 1 rfl) ?_
  refine lv_if_lt (tgt := 15) hx hb d_Gp_cut_1 (by decide) (fun c_1 => ?_) (fun c_1 => ?_)
  · exact xt_throw M hK hI htr hlo hex (names := ["java/lang/RuntimeException", "java/lang/Exception"]) (ic := 55) (by decide +kernel) (by decide +kernel) q_Gp_53 z_IAE j_IAE at_IAE hl.1 d_Gp_cut_15 d_Gp_cut_18 d_Gp_cut_19 d_Gp_cut_22 (by decide) (by decide) (by decide) (by decide)
  · refine lv_iload_n hx hb d_Gp_cut_4 rfl (lv_at hl 1 rfl) ?_
    refine lv_aload_n hx hb d_Gp_cut_5 rfl (lv_at hl 0 rfl) ?_
    refine gw_get M hK hI hO i_Gp rfl 3 (by decide) f_Gp_28 rfl (Pv := fun v => v = .ref sent) (fun x hx => ⟨_, _, hx, rfl, rfl⟩) d_Gp_cut_6 (fun v hv => ?_)
    subst hv
    refine gw_get M hK hI hS i_Ro rfl 1 (by decide) f_Gp_87 rfl (Pv := fun v => v = .int 0) (fun x hx => ⟨_, _, hx, rfl, rfl⟩) d_Gp_cut_9 (fun v hv => ?_)
    subst hv
    refine lv_icmp_le (tgt := 23) hx hb d_Gp_cut_12 (by decide) (fun q9 => absurd q9 (fun q9 => h10 (cut_0 c_1 q9))) (fun c_12 => ?_)
    exact xt_throw M hK hI htr hlo hex (names := ["java/lang/RuntimeException", "java/lang/Exception"]) (ic := 55) (by decide +kernel) (by decide +kernel) q_Gp_53 z_IAE j_IAE at_IAE hl.1 d_Gp_cut_15 d_Gp_cut_18 d_Gp_cut_19 d_Gp_cut_22 (by decide) (by decide) (by decide) (by decide)

abbrev rm_Gp_cut : Room := { frames := 1, cells := 0, slots := 0, locals := 21 }
set_option maxHeartbeats 4000000 in
set_option maxRecDepth 100000 in
theorem c_Gp_cut (l : Launch) {D : gw_D} {Hs : Heap} {G : gw_G}  (o arr fed sent places plain gained check : Nat) (hO : G o = some (kx (.inr (5, [.ref arr, .int 0, .ref fed, .ref sent, .ref places, .ref plain, .ref gained, .ref check])))) (sq : Nat) (hS : G sent = some (kx (.inr (3, [.ref sq, .int 0, .int 0])))) (hbS : G sq = some (kA D 1 236 tT)) : Met l y_Gp_cut (Cond.code y_Gp_cut b_Gp_cut 2 none :: tb) rm_Gp_cut (gw_Pc D Hs G [.ref o, .int 0]) (gw_Qv D Hs (fun G1 => G1 = G)) 0 0 (gw_A Hs) := by
  refine gw_met (by decide) (Nat.le_of_ble_eq_true rfl) ?_
  intro p e s m args below meth c M hK hr hlo hin hI ls hl
  have hx := M.1
  have hb := M.2.1
  have hl : lv_has ls 2 [(0, .ref o), (1, .int 0)] := hl
  refine lv_iload_n hx hb d_Gp_cut_0 rfl (lv_at hl 1 rfl) ?_
  refine lv_if_lt (tgt := 15) hx hb d_Gp_cut_1 (by decide) (fun q9 => absurd q9 (by decide)) (fun c_1 => ?_)
  refine lv_iload_n hx hb d_Gp_cut_4 rfl (lv_at hl 1 rfl) ?_
  refine lv_aload_n hx hb d_Gp_cut_5 rfl (lv_at hl 0 rfl) ?_
  refine gw_get M hK hI hO i_Gp rfl 3 (by decide) f_Gp_28 rfl (Pv := fun v => v = .ref sent) (fun x hx => ⟨_, _, hx, rfl, rfl⟩) d_Gp_cut_6 (fun v hv => ?_)
  subst hv
  refine gw_get M hK hI hS i_Ro rfl 1 (by decide) f_Gp_87 rfl (Pv := fun v => v = .int 0) (fun x hx => ⟨_, _, hx, rfl, rfl⟩) d_Gp_cut_9 (fun v hv => ?_)
  subst hv
  refine lv_icmp_le (tgt := 23) hx hb d_Gp_cut_12 (by decide) (fun c_12 => ?_) (fun q9 => absurd (by decide) q9)
  refine lv_aload_n hx hb d_Gp_cut_23 rfl (lv_at hl 0 rfl) ?_
  refine gw_get M hK hI hO i_Gp rfl 3 (by decide) f_Gp_28 rfl (Pv := fun v => v = .ref sent) (fun x hx => ⟨_, _, hx, rfl, rfl⟩) d_Gp_cut_24 (fun v hv => ?_)
  subst hv
  refine lv_iload_n hx hb d_Gp_cut_27 rfl (lv_at hl 1 rfl) ?_
  refine gw_Vv (As := [.int 0]) (rest := []) M hK hI (c_Ro_shorten l sent sq hS) k_Ro_shorten m_Gp_93 hS (ci := 3) rfl (fun x hx => ⟨_, hx⟩) rfl hl.1 rfl (Nat.le_of_ble_eq_true rfl) ⟨rfl, rfl, ⟨Nat.le_of_ble_eq_true rfl, Nat.le_of_ble_eq_true rfl⟩, ⟨Nat.le_of_ble_eq_true rfl, Nat.le_of_ble_eq_true rfl⟩⟩ d_Gp_cut_28 (fun G9 H locs hw hI => ?_)
  rw [hw] at hI
  exact gw_vret M hr hlo hI d_Gp_cut_31 rfl

abbrev rm_Gp_feedx : Room := { frames := 6, cells := 1, slots := 6, locals := 100 }
set_option maxHeartbeats 4000000 in
set_option maxRecDepth 100000 in
theorem c_Gp_feedx (l : Launch) (htr : l.stackTraces = false) {D : gw_D} {Hs : Heap} {G : gw_G} (n1 : Int32) (n2 : Int64) (hbad : n1 < 1 ∨ ¬ n1 ≤ 8) (o arr fed sent places plain gained check : Nat) (hO : G o = some (kx (.inr (5, [.ref arr, .int 0, .ref fed, .ref sent, .ref places, .ref plain, .ref gained, .ref check])))) : xt_Met l y_Gp_feed b_Gp_feed 5 (some .int) rm_Gp_feedx D Hs G [.ref o, .int n1, .long n2] "java/lang/IllegalArgumentException" 1 6 := by
  refine xt_met (by decide) (Nat.le_of_ble_eq_true rfl) ?_
  intro p e s m args below meth c M hK hlo hex hI ls hl
  have hx := M.1
  have hb := M.2.1
  have hl : lv_has ls 5 [(0, .ref o), (1, .int n1), (2, .long n2)] := hl
  refine lv_iload_n hx hb d_Gp_feed_0 rfl (lv_at hl 1 rfl) ?_
  refine lv_iconst (v := 1) hx hb d_Gp_feed_1 (by decide) ?_
  refine lv_icmp_lt (tgt := 11) hx hb d_Gp_feed_2 (by decide) (fun c_2 => ?_) (fun c_2 => ?_)
  · exact xt_throw M hK hI htr hlo hex (names := ["java/lang/RuntimeException", "java/lang/Exception"]) (ic := 55) (by decide +kernel) (by decide +kernel) q_Gp_53 z_IAE j_IAE at_IAE hl.1 d_Gp_feed_11 d_Gp_feed_14 d_Gp_feed_15 d_Gp_feed_18 (by decide) (by decide) (by decide) (by decide)
  · refine lv_iload_n hx hb d_Gp_feed_5 rfl (lv_at hl 1 rfl) ?_
    refine lv_bipush (v := 8) hx hb d_Gp_feed_6 (by decide) ?_
    refine lv_icmp_le (tgt := 19) hx hb d_Gp_feed_8 (by decide) (fun q9 => absurd q9 (hbad.resolve_left c_2)) (fun c_8 => ?_)
    exact xt_throw M hK hI htr hlo hex (names := ["java/lang/RuntimeException", "java/lang/Exception"]) (ic := 55) (by decide +kernel) (by decide +kernel) q_Gp_53 z_IAE j_IAE at_IAE hl.1 d_Gp_feed_11 d_Gp_feed_14 d_Gp_feed_15 d_Gp_feed_18 (by decide) (by decide) (by decide) (by decide)

abbrev rm_Gp_addx : Room := { frames := 6, cells := 1, slots := 6, locals := 100 }
set_option maxHeartbeats 4000000 in
set_option maxRecDepth 100000 in
theorem c_Gp_addx (l : Launch) (htr : l.stackTraces = false) {D : gw_D} {Hs : Heap} {G : gw_G} (n1 : Int32) (kh kl : Int64) (n6 n7 n8 : Int32) (hbad : n1 < 256 ∨ ¬ okW n7) (o arr fed sent places plain gained check : Nat) (hO : G o = some (kx (.inr (5, [.ref arr, .int 0, .ref fed, .ref sent, .ref places, .ref plain, .ref gained, .ref check])))) : xt_Met l y_Gp_add b_Gp_add 12 (some .boolean) rm_Gp_addx D Hs G [.ref o, .int n1, .long kh, .long kl, .int n6, .int n7, .int n8] "java/lang/IllegalArgumentException" 1 6 := by
  refine xt_met (by decide) (Nat.le_of_ble_eq_true rfl) ?_
  intro p e s m args below meth c M hK hlo hex hI ls hl
  have hx := M.1
  have hb := M.2.1
  have hl : lv_has ls 12 [(0, .ref o), (1, .int n1), (2, .long kh), (4, .long kl), (6, .int n6), (7, .int n7), (8, .int n8)] := hl
  refine lv_iload_n hx hb d_Gp_add_0 rfl (lv_at hl 1 rfl) ?_
  refine lv_sipush (v := 256) hx hb d_Gp_add_1 (by decide) ?_
  refine lv_icmp_lt (tgt := 15) hx hb d_Gp_add_4 (by decide) (fun c_4 => ?_) (fun c_4 => ?_)
  · exact xt_throw M hK hI htr hlo hex (names := ["java/lang/RuntimeException", "java/lang/Exception"]) (ic := 55) (by decide +kernel) (by decide +kernel) q_Gp_53 z_IAE j_IAE at_IAE hl.1 d_Gp_add_15 d_Gp_add_18 d_Gp_add_19 d_Gp_add_22 (by decide) (by decide) (by decide) (by decide)
  · refine lv_iload hx hb d_Gp_add_7 (lv_at hl 5 rfl) ?_
    refine gp_S (As := [.int n7]) (rest := []) M hK hI (c_Gp_isWindow l n7) k_Gp_isWindow m_Gp_49 rfl hl.1 rfl (Nat.le_of_ble_eq_true rfl) ⟨rfl, rfl, ⟨Nat.le_of_ble_eq_true rfl, Nat.le_of_ble_eq_true rfl⟩, ⟨Nat.le_of_ble_eq_true rfl, Nat.le_of_ble_eq_true rfl⟩⟩ d_Gp_add_9 (fun x1 h_x1 => ?_)
    refine lv_if_ne (tgt := 23) hx hb d_Gp_add_12 (by decide) (fun q9 => absurd (by rcases h_x1 with h9 | h9; exact absurd h9.1 (hbad.resolve_left c_4); exact h9.2) q9) (fun c_12 => ?_)
    exact xt_throw M hK hI htr hlo hex (names := ["java/lang/RuntimeException", "java/lang/Exception"]) (ic := 55) (by decide +kernel) (by decide +kernel) q_Gp_53 z_IAE j_IAE at_IAE hl.1 d_Gp_add_15 d_Gp_add_18 d_Gp_add_19 d_Gp_add_22 (by decide) (by decide) (by decide) (by decide)

abbrev rm_Gp_keepx : Room := { frames := 6, cells := 1, slots := 6, locals := 100 }
set_option maxHeartbeats 4000000 in
set_option maxRecDepth 100000 in
theorem c_Gp_keepx (l : Launch) (htr : l.stackTraces = false) {D : gw_D} {Hs : Heap} {G : gw_G} (n1 : Int32) (hbad : n1 < 0 ∨ 8 ≤ n1) (o arr fed sent places plain gained check : Nat) (hO : G o = some (kx (.inr (5, [.ref arr, .int 0, .ref fed, .ref sent, .ref places, .ref plain, .ref gained, .ref check])))) : xt_Met l y_Gp_keep b_Gp_keep 2 none rm_Gp_keepx D Hs G [.ref o, .int n1] "java/lang/IndexOutOfBoundsException" 1 6 := by
  refine xt_met (by decide) (Nat.le_of_ble_eq_true rfl) ?_
  intro p e s m args below meth c M hK hlo hex hI ls hl
  have hx := M.1
  have hb := M.2.1
  have hl : lv_has ls 2 [(0, .ref o), (1, .int n1)] := hl
  refine lv_iload_n hx hb d_Gp_keep_0 rfl (lv_at hl 1 rfl) ?_
  refine gp_S (As := [.int n1]) (rest := []) M hK hI (c_Gp_isPlace l n1) k_Gp_isPlace m_Gp_140 rfl hl.1 rfl (Nat.le_of_ble_eq_true rfl) ⟨rfl, rfl, ⟨Nat.le_of_ble_eq_true rfl, Nat.le_of_ble_eq_true rfl⟩, ⟨Nat.le_of_ble_eq_true rfl, Nat.le_of_ble_eq_true rfl⟩⟩ d_Gp_keep_1 (fun x1 h_x1 => ?_)
  refine lv_if_ne (tgt := 15) hx hb d_Gp_keep_4 (by decide) (fun q9 => absurd (by rcases h_x1 with h9 | h9; exact absurd hbad (fun h8 => h8.elim h9.1.1 h9.1.2); exact h9.2) q9) (fun c_4 => ?_)
  exact xt_throw M hK hI htr hlo hex (names := ["java/lang/RuntimeException", "java/lang/Exception"]) (ic := 131) (by decide +kernel) (by decide +kernel) q_Gp_129 z_IOE j_IOE at_IOE hl.1 d_Gp_keep_7 d_Gp_keep_10 d_Gp_keep_11 d_Gp_keep_14 (by decide) (by decide) (by decide) (by decide)

abbrev rm_Gp_bringx : Room := { frames := 6, cells := 1, slots := 6, locals := 100 }
set_option maxHeartbeats 4000000 in
set_option maxRecDepth 100000 in
theorem c_Gp_bringx (l : Launch) (htr : l.stackTraces = false) {D : gw_D} {Hs : Heap} {G : gw_G} (n1 : Int32) (hbad : n1 < 0 ∨ 8 ≤ n1) (o arr fed sent places plain gained check : Nat) (hO : G o = some (kx (.inr (5, [.ref arr, .int 0, .ref fed, .ref sent, .ref places, .ref plain, .ref gained, .ref check])))) : xt_Met l y_Gp_bring b_Gp_bring 2 (some .int) rm_Gp_bringx D Hs G [.ref o, .int n1] "java/lang/IndexOutOfBoundsException" 1 6 := by
  refine xt_met (by decide) (Nat.le_of_ble_eq_true rfl) ?_
  intro p e s m args below meth c M hK hlo hex hI ls hl
  have hx := M.1
  have hb := M.2.1
  have hl : lv_has ls 2 [(0, .ref o), (1, .int n1)] := hl
  refine lv_iload_n hx hb d_Gp_bring_0 rfl (lv_at hl 1 rfl) ?_
  refine gp_S (As := [.int n1]) (rest := []) M hK hI (c_Gp_isPlace l n1) k_Gp_isPlace m_Gp_140 rfl hl.1 rfl (Nat.le_of_ble_eq_true rfl) ⟨rfl, rfl, ⟨Nat.le_of_ble_eq_true rfl, Nat.le_of_ble_eq_true rfl⟩, ⟨Nat.le_of_ble_eq_true rfl, Nat.le_of_ble_eq_true rfl⟩⟩ d_Gp_bring_1 (fun x1 h_x1 => ?_)
  refine lv_if_ne (tgt := 15) hx hb d_Gp_bring_4 (by decide) (fun q9 => absurd (by rcases h_x1 with h9 | h9; exact absurd hbad (fun h8 => h8.elim h9.1.1 h9.1.2); exact h9.2) q9) (fun c_4 => ?_)
  exact xt_throw M hK hI htr hlo hex (names := ["java/lang/RuntimeException", "java/lang/Exception"]) (ic := 131) (by decide +kernel) (by decide +kernel) q_Gp_129 z_IOE j_IOE at_IOE hl.1 d_Gp_bring_7 d_Gp_bring_10 d_Gp_bring_11 d_Gp_bring_14 (by decide) (by decide) (by decide) (by decide)

abbrev rm_Gp_keep : Room := { frames := 2, cells := 0, slots := 0, locals := 45 }
set_option maxHeartbeats 4000000 in
set_option maxRecDepth 100000 in
theorem c_Gp_keep (l : Launch) {D : gw_D} {Hs : Heap} {G : gw_G} (n1 : Int32) (o arr fed sent places plain gained check : Nat) (hO : G o = some (kx (.inr (5, [.ref arr, .int 0, .ref fed, .ref sent, .ref places, .ref plain, .ref gained, .ref check])))) (sq : Nat) (hS : G sent = some (kx (.inr (3, [.ref sq, .int 0, .int 0])))) (hbS : G sq = some (kA D 1 236 tT)) (ro : Nat → Nat) (hok : ¬ n1 < 0 ∧ ¬ 8 ≤ n1) (hL : G places = some (kR D 5 8 (fun j b => b = ro j))) (hRo : ∀ j, j < 8 → isRo D G 236 (ro j)) (hRs : ∀ j, j < 8 → sent ≠ ro j) : Met l y_Gp_keep (Cond.code y_Gp_keep b_Gp_keep 2 none :: tb) rm_Gp_keep (gw_Pc D Hs G [.ref o, .int n1]) (gw_Qv D Hs (fun G1 => G1 = G)) 0 0 (gw_A Hs) := by
  refine gw_met (by decide) (Nat.le_of_ble_eq_true rfl) ?_
  intro p e s m args below meth c M hK hr hlo hin hI ls hl
  have hx := M.1
  have hb := M.2.1
  have hl : lv_has ls 2 [(0, .ref o), (1, .int n1)] := hl
  refine lv_iload_n hx hb d_Gp_keep_0 rfl (lv_at hl 1 rfl) ?_
  refine gp_S (As := [.int n1]) (rest := []) M hK hI (c_Gp_isPlace l n1) k_Gp_isPlace m_Gp_140 rfl hl.1 rfl (Nat.le_of_ble_eq_true rfl) ⟨rfl, rfl, ⟨Nat.le_of_ble_eq_true rfl, Nat.le_of_ble_eq_true rfl⟩, ⟨Nat.le_of_ble_eq_true rfl, Nat.le_of_ble_eq_true rfl⟩⟩ d_Gp_keep_1 (fun x1 h_x1 => ?_)
  refine lv_if_ne (tgt := 15) hx hb d_Gp_keep_4 (by decide) (fun c_4 => ?_) (fun q9 => absurd q9 (fun q9 => by rcases h_x1 with h9 | h9; rw [h9.2] at q9; exact absurd q9 (by decide); exact h9.1.elim hok.1 hok.2))
  refine lv_aload_n hx hb d_Gp_keep_15 rfl (lv_at hl 0 rfl) ?_
  refine gw_get M hK hI hO i_Gp rfl 4 (by decide) f_Gp_31 rfl (Pv := fun v => v = .ref places) (fun x hx => ⟨_, _, hx, rfl, rfl⟩) d_Gp_keep_16 (fun v hv => ?_)
  subst hv
  refine lv_iload_n hx hb d_Gp_keep_19 rfl (lv_at hl 1 rfl) ?_
  refine gw_aald M hK hI 5 rfl hL (in_lt hok.1 (Int32.not_le.mp hok.2)) d_Gp_keep_20 (fun r2 h_r2 => ?_)
  obtain ⟨jq, hjq, hjn⟩ := vp_in_of (in_lt (n := 8) hok.1 (Int32.not_le.mp hok.2)) (by decide)
  have hjc : n1.toNatClampNeg = jq := by rw [hjn]; exact nI_clamp (by omega)
  obtain ⟨rq, hr1, hr2⟩ := hRo jq hjq
  rw [hjc] at h_r2
  subst h_r2
  refine lv_aload_n hx hb d_Gp_keep_21 rfl (lv_at hl 0 rfl) ?_
  refine gw_get M hK hI hO i_Gp rfl 3 (by decide) f_Gp_28 rfl (Pv := fun v => v = .ref sent) (fun x hx => ⟨_, _, hx, rfl, rfl⟩) d_Gp_keep_22 (fun v hv => ?_)
  subst hv
  refine gw_Vv (As := [.ref sent]) (rest := []) M hK hI (c_Ro_become l (ro jq) sent rq sq hr1 hS (hRs jq hjq)) k_Ro_become m_Gp_143 hr1 (ci := 3) rfl (fun x hx => ⟨_, hx⟩) rfl hl.1 rfl (Nat.le_of_ble_eq_true rfl) ⟨rfl, rfl, ⟨Nat.le_of_ble_eq_true rfl, Nat.le_of_ble_eq_true rfl⟩, ⟨Nat.le_of_ble_eq_true rfl, Nat.le_of_ble_eq_true rfl⟩⟩ d_Gp_keep_25 (fun G9 H locs hw hI => ?_)
  rw [hw] at hI
  exact gw_vret M hr hlo hI d_Gp_keep_28 rfl

abbrev rm_Gp_bring : Room := { frames := 1, cells := 0, slots := 0, locals := 20 }
set_option maxHeartbeats 4000000 in
set_option maxRecDepth 100000 in
theorem c_Gp_bring (l : Launch) {D : gw_D} {Hs : Heap} {G : gw_G} (n1 : Int32) (o arr fed sent places plain gained check : Nat) (hO : G o = some (kx (.inr (5, [.ref arr, .int 0, .ref fed, .ref sent, .ref places, .ref plain, .ref gained, .ref check])))) (sq : Nat) (hS : G sent = some (kx (.inr (3, [.ref sq, .int 0, .int 0])))) (hbS : G sq = some (kA D 1 236 tT)) (ro : Nat → Nat) (hok : ¬ n1 < 0 ∧ ¬ 8 ≤ n1) (hL : G places = some (kR D 5 8 (fun j b => b = ro j))) (hRo : ∀ j, j < 8 → isRo D G 236 (ro j)) (hRs : ∀ j, j < 8 → sent ≠ ro j) : Met l y_Gp_bring (Cond.code y_Gp_bring b_Gp_bring 2 (some .int) :: tb) rm_Gp_bring (gw_Pc D Hs G [.ref o, .int n1]) (gw_Qi D Hs (fun r G1 => r = -1 ∧ G1 = G)) 0 0 (gw_A Hs) := by
  refine gw_met (by decide) (Nat.le_of_ble_eq_true rfl) ?_
  intro p e s m args below meth c M hK hr hlo hin hI ls hl
  have hx := M.1
  have hb := M.2.1
  have hl : lv_has ls 2 [(0, .ref o), (1, .int n1)] := hl
  refine lv_iload_n hx hb d_Gp_bring_0 rfl (lv_at hl 1 rfl) ?_
  refine gp_S (As := [.int n1]) (rest := []) M hK hI (c_Gp_isPlace l n1) k_Gp_isPlace m_Gp_140 rfl hl.1 rfl (Nat.le_of_ble_eq_true rfl) ⟨rfl, rfl, ⟨Nat.le_of_ble_eq_true rfl, Nat.le_of_ble_eq_true rfl⟩, ⟨Nat.le_of_ble_eq_true rfl, Nat.le_of_ble_eq_true rfl⟩⟩ d_Gp_bring_1 (fun x1 h_x1 => ?_)
  refine lv_if_ne (tgt := 15) hx hb d_Gp_bring_4 (by decide) (fun c_4 => ?_) (fun q9 => absurd q9 (fun q9 => by rcases h_x1 with h9 | h9; rw [h9.2] at q9; exact absurd q9 (by decide); exact h9.1.elim hok.1 hok.2))
  refine lv_aload_n hx hb d_Gp_bring_15 rfl (lv_at hl 0 rfl) ?_
  refine gw_get M hK hI hO i_Gp rfl 4 (by decide) f_Gp_31 rfl (Pv := fun v => v = .ref places) (fun x hx => ⟨_, _, hx, rfl, rfl⟩) d_Gp_bring_16 (fun v hv => ?_)
  subst hv
  refine lv_iload_n hx hb d_Gp_bring_19 rfl (lv_at hl 1 rfl) ?_
  refine gw_aald M hK hI 5 rfl hL (in_lt hok.1 (Int32.not_le.mp hok.2)) d_Gp_bring_20 (fun r2 h_r2 => ?_)
  obtain ⟨jq, hjq, hjn⟩ := vp_in_of (in_lt (n := 8) hok.1 (Int32.not_le.mp hok.2)) (by decide)
  have hjc : n1.toNatClampNeg = jq := by rw [hjn]; exact nI_clamp (by omega)
  obtain ⟨rq, hr1, hr2⟩ := hRo jq hjq
  rw [hjc] at h_r2
  subst h_r2
  refine gw_get M hK hI hr1 i_Ro rfl 2 (by decide) f_Gp_147 rfl (Pv := fun v => v = .int 0) (fun x hx => ⟨_, _, hx, rfl, rfl⟩) d_Gp_bring_21 (fun v hv => ?_)
  subst hv
  refine lv_if_ne (tgt := 29) hx hb d_Gp_bring_24 (by decide) (fun q9 => absurd (by decide) q9) (fun c_24 => ?_)
  refine lv_iconst (v := (-1)) hx hb d_Gp_bring_27 (by decide) ?_
  exact gw_iret M hr hlo hI d_Gp_bring_28 (⟨rfl, rfl⟩)

abbrev rm_Gp_feed : Room := { frames := 1, cells := 0, slots := 0, locals := 21 }
set_option maxHeartbeats 4000000 in
set_option maxRecDepth 100000 in
theorem c_Gp_feed (l : Launch) {D : gw_D} {Hs : Heap} {G : gw_G} (n1 : Int32) (n2 : Int64) (hok : ¬ n1 < 1 ∧ n1 ≤ 8) (o arr fed sent places plain gained check : Nat) (hO : G o = some (kx (.inr (5, [.ref arr, .int 0, .ref fed, .ref sent, .ref places, .ref plain, .ref gained, .ref check])))) (fq : Nat) (hF : G fed = some (kx (.inr (3, [.ref fq, .int 0, .int 0])))) (hbF : G fq = some (kA D 1 200 tT)) : Met l y_Gp_feed (Cond.code y_Gp_feed b_Gp_feed 5 (some .int) :: tb) rm_Gp_feed (gw_Pc D Hs G [.ref o, .int n1, .long n2]) (gw_Qi D Hs (fun r G1 => r = n1 ∧ G1 = gw_up G fed (kx (.inr (3, [.ref fq, .int n1, .int 0]))))) 0 0 (gw_A Hs) := by
  refine gw_met (by decide) (Nat.le_of_ble_eq_true rfl) ?_
  intro p e s m args below meth c M hK hr hlo hin hI ls hl
  have hx := M.1
  have hb := M.2.1
  have hl : lv_has ls 5 [(0, .ref o), (1, .int n1), (2, .long n2)] := hl
  obtain ⟨n, hn1, hn8, hn⟩ := n1_of hok.1 hok.2
  have hof : o ≠ fed := ne_x hO hF (fun q => by cases q)
  have hqf : fq ≠ fed := (ne_x hF hbF (fun q => by obtain ⟨f, -, q⟩ := q; cases q)).symm
  refine lv_iload_n hx hb d_Gp_feed_0 rfl (lv_at hl 1 rfl) ?_
  refine lv_iconst (v := 1) hx hb d_Gp_feed_1 (by decide) ?_
  refine lv_icmp_lt (tgt := 11) hx hb d_Gp_feed_2 (by decide) (fun q9 => absurd q9 hok.1) (fun c_2 => ?_)
  refine lv_iload_n hx hb d_Gp_feed_5 rfl (lv_at hl 1 rfl) ?_
  refine lv_bipush (v := 8) hx hb d_Gp_feed_6 (by decide) ?_
  refine lv_icmp_le (tgt := 19) hx hb d_Gp_feed_8 (by decide) (fun c_8 => ?_) (fun q9 => absurd hok.2 q9)
  refine lv_aload_n hx hb d_Gp_feed_19 rfl (lv_at hl 0 rfl) ?_
  refine gw_get M hK hI hO i_Gp rfl 2 (by decide) f_Gp_24 rfl (Pv := fun v => v = .ref fed) (fun x hx => ⟨_, _, hx, rfl, rfl⟩) d_Gp_feed_20 (fun v hv => ?_)
  subst hv
  refine gw_get M hK hI hF i_Ro rfl 1 (by decide) f_Gp_87 rfl (Pv := fun v => v = .int 0) (fun x hx => ⟨_, _, hx, rfl, rfl⟩) d_Gp_feed_23 (fun v hv => ?_)
  subst hv
  refine lv_iload_n hx hb d_Gp_feed_26 rfl (lv_at hl 1 rfl) ?_
  refine lv_iadd hx hb d_Gp_feed_27 ?_
  refine lv_sipush (v := 200) hx hb d_Gp_feed_28 (by decide) ?_
  refine lv_icmp_le (tgt := 36) hx hb d_Gp_feed_31 (by decide) (fun c_31 => ?_) (fun q9 => absurd (by rw [hn, show (0 : Int32) + nI n = nI n from by rw [show (0 : Int32) = nI 0 from rfl, nI_add, Nat.zero_add]]; exact nI_le (a := n) (b := 200) (Nat.le_trans hn8 (by decide)) (by decide)) q9)
  refine lv_iconst (v := 0) hx hb d_Gp_feed_36 (by decide) ?_
  refine lv_istore (lv' := [(4, .int 0), (0, .ref o), (1, .int n1), (2, .long n2)]) hx hb d_Gp_feed_37 hl (by decide) rfl (fun ls hl => ?_)
  have L_39 : ∀ (n9 : Nat) (k : Nat) (y4 : Int32) (Gk : gw_G) (H : Heap) (locs : List Loc) (ls : Array Slot), k ≤ n → y4 = nI k → Gk = gw_up G fed (kx (.inr (3, [.ref fq, .int (nI k), .int 0]))) → n - k < n9 → gw_I D Hs Gk s.heap H locs → lv_has ls 5 [(4, .int y4), (0, .ref o), (1, .int n1), (2, .long n2)] → W p l e rm_Gp_feed s m args below meth c H locs 0 0 (MQ below (gw_Qi D Hs (fun r G1 => r = n1 ∧ G1 = gw_up G fed (kx (.inr (3, [.ref fq, .int n1, .int 0]))))) args s 0 0 (gw_A Hs)) (F0 m 39 ls []) := by
    intro n9
    induction n9 with
    | zero =>
      intro k y4 Gk H locs ls hkn hk hGe hm hI hl
      exact absurd hm (Nat.not_lt_zero _)
    | succ n9 ih_39 =>
      intro k y4 Gk H locs ls hkn hk hGe hm_39 hI hl
      have hFk : Gk fed = some (kx (.inr (3, [.ref fq, .int (nI k), .int 0]))) := by rw [hGe]; exact gw_up_s
      have hOk : Gk o = some (kx (.inr (5, [.ref arr, .int 0, .ref fed, .ref sent, .ref places, .ref plain, .ref gained, .ref check]))) := by rw [hGe, gw_up_n hof]; exact hO
      have hBk : Gk fq = some (kA D 1 200 tT) := by rw [hGe, gw_up_n hqf]; exact hbF
      refine lv_iload hx hb d_Gp_feed_39 (lv_at hl 0 rfl) ?_
      refine lv_iload_n hx hb d_Gp_feed_41 rfl (lv_at hl 2 rfl) ?_
      refine lv_icmp_ge (tgt := 66) hx hb d_Gp_feed_42 (by decide) (fun c_42 => ?_) (fun c_42 => ?_)
      · have hkn2 : k = n := Nat.le_antisymm hkn (nb_ge hk (by rw [← hn]; exact c_42) (by omega) (by omega))
        subst hkn2
        refine lv_aload_n hx hb d_Gp_feed_66 rfl (lv_at hl 1 rfl) ?_
        refine gw_get M hK hI hOk i_Gp rfl 2 (by decide) f_Gp_24 rfl (Pv := fun v => v = .ref fed) (fun x hx => ⟨_, _, hx, rfl, rfl⟩) d_Gp_feed_67 (fun v hv => ?_)
        subst hv
        refine gw_get M hK hI hFk i_Ro rfl 1 (by decide) f_Gp_87 rfl (Pv := fun v => v = .int (nI k)) (fun x hx => ⟨_, _, hx, rfl, rfl⟩) d_Gp_feed_70 (fun v hv => ?_)
        subst hv
        exact gw_iret M hr hlo hI d_Gp_feed_73 (⟨hn.symm, by rw [hGe, ← hn]⟩)
      · have hlt : k < n := nb_lt hk (by rw [← hn]; exact c_42) (by omega) (by omega)
        refine lv_aload_n hx hb d_Gp_feed_45 rfl (lv_at hl 1 rfl) ?_
        refine gw_get M hK hI hOk i_Gp rfl 2 (by decide) f_Gp_24 rfl (Pv := fun v => v = .ref fed) (fun x hx => ⟨_, _, hx, rfl, rfl⟩) d_Gp_feed_46 (fun v hv => ?_)
        subst hv
        refine lv_lload_n hx hb d_Gp_feed_49 rfl (lv_at hl 3 rfl) ?_
        refine lv_bipush (v := 8) hx hb d_Gp_feed_50 (by decide) ?_
        refine lv_iload hx hb d_Gp_feed_52 (lv_at hl 0 rfl) ?_
        refine lv_imul hx hb d_Gp_feed_54 ?_
        refine lv_lushr hx hb d_Gp_feed_55 rfl ?_
        refine lv_l2i hx hb d_Gp_feed_56 rfl ?_
        refine gw_Vv (As := [.int (((((n2).toUInt64 >>> ((((8 : Int32) * y4)).toInt64.toUInt64 &&& Int64.toUInt64 63)).toInt64)).toInt32)]) (rest := []) M hK hI (c_Ro_append l fed fq k 200 (((((n2).toUInt64 >>> ((((8 : Int32) * y4)).toInt64.toUInt64 &&& Int64.toUInt64 63)).toInt64)).toInt32) 0 (by omega) (by decide) hFk hBk) k_Ro_append m_Gp_90 hFk (ci := 3) rfl (fun x hx => ⟨_, hx⟩) rfl hl.1 rfl (Nat.le_of_ble_eq_true rfl) ⟨rfl, rfl, ⟨Nat.le_of_ble_eq_true rfl, Nat.le_of_ble_eq_true rfl⟩, ⟨Nat.le_of_ble_eq_true rfl, Nat.le_of_ble_eq_true rfl⟩⟩ d_Gp_feed_57 (fun G1 H locs hw hI => ?_)
        have hGn : G1 = gw_up G fed (kx (.inr (3, [.ref fq, .int (nI (k + 1)), .int 0]))) := by rw [hw, hGe, gw_up_up]
        obtain ⟨x2, e_x2⟩ : ∃ ww9 : Int32, ww9 = y4 + 1 := ⟨_, rfl⟩
        refine lv_iinc (v := x2) (lv' := [(4, .int x2), (0, .ref o), (1, .int n1), (2, .long n2)]) hx hb d_Gp_feed_60 hl (k := 0) rfl (by rw [e_x2]; rfl) (by decide) rfl (fun ls hl => ?_)
        refine lv_goto (tgt := 39) hx hb d_Gp_feed_63 (by decide) ?_
        exact ih_39 (k + 1) x2 G1 _ _ _ hlt (nb_s e_x2 hk) hGn (z_m hm_39 hlt) hI (lv_sub hl [0, 1, 2, 3] rfl)
  exact L_39 _ 0 0 G _ _ _ (Nat.zero_le _) rfl ((gw_up_id (K := kx (.inr (3, [.ref fq, .int 0, .int 0]))) hF).symm) (Nat.lt_succ_self _) hI (lv_sub hl [0, 1, 2, 3] rfl)

theorem arr_keep {f : Nat → Option Nat} {as : Nat → Nat} (hf : ∀ j, j < 16 → ∃ b, f j = some b ∧ b = as j) : ∀ j, j < 16 → ∃ b, va_up f (0 : Int32).toNatClampNeg (some (as 0)) j = some b ∧ b = as j := by
  intro j hj
  rw [show (0 : Int32).toNatClampNeg = 0 from rfl]
  by_cases h : j = 0
  · subst h; exact ⟨as 0, by simp [va_up], rfl⟩
  · obtain ⟨b, h1, h2⟩ := hf j hj
    exact ⟨b, by simp only [va_up, h, if_false]; exact h1, h2⟩

abbrev rm_Gp_add : Room := { frames := 4, cells := 0, slots := 0, locals := 100 }
set_option maxHeartbeats 4000000 in
set_option maxRecDepth 100000 in
theorem c_Gp_add (l : Launch) {D : gw_D} {Hs : Heap} {G : gw_G} (n1 : Int32) (kh kl : Int64) (n6 n7 n8 : Int32) (h8 : n8 = 0 ∨ n8 = 1) (hok : ¬ n1 < 256 ∧ okW n7) (o arr fed sent places plain gained check : Nat) (hO : G o = some (kx (.inr (5, [.ref arr, .int 0, .ref fed, .ref sent, .ref places, .ref plain, .ref gained, .ref check])))) (as : Nat → Nat) (hArr : G arr = some (kR D 4 16 (fun j b => b = as j))) (hAs : isAs D G (as 0)) : Met l y_Gp_add (Cond.code y_Gp_add b_Gp_add 12 (some .boolean) :: tb) rm_Gp_add (gw_Pc D Hs G [.ref o, .int n1, .long kh, .long kl, .int n6, .int n7, .int n8]) (gw_Qi D Hs (fun r G1 => r = 1 ∧ G1 = gw_up G o (kx (.inr (5, [.ref arr, .int 1, .ref fed, .ref sent, .ref places, .ref plain, .ref gained, .ref check]))))) 0 0 (gw_A Hs) := by
  refine gw_met (by decide) (Nat.le_of_ble_eq_true rfl) ?_
  intro p e s m args below meth c M hK hr hlo hin hI ls hl
  have hx := M.1
  have hb := M.2.1
  have hl : lv_has ls 12 [(0, .ref o), (1, .int n1), (2, .long kh), (4, .long kl), (6, .int n6), (7, .int n7), (8, .int n8)] := hl
  obtain ⟨ci, wo, wi, bi, ha1, ha2, ha3, ha4, ha5⟩ := hAs
  refine lv_iload_n hx hb d_Gp_add_0 rfl (lv_at hl 1 rfl) ?_
  refine lv_sipush (v := 256) hx hb d_Gp_add_1 (by decide) ?_
  refine lv_icmp_lt (tgt := 15) hx hb d_Gp_add_4 (by decide) (fun q9 => absurd q9 hok.1) (fun c_4 => ?_)
  refine lv_iload hx hb d_Gp_add_7 (lv_at hl 5 rfl) ?_
  refine gp_S (As := [.int n7]) (rest := []) M hK hI (c_Gp_isWindow l n7) k_Gp_isWindow m_Gp_49 rfl hl.1 rfl (Nat.le_of_ble_eq_true rfl) ⟨rfl, rfl, ⟨Nat.le_of_ble_eq_true rfl, Nat.le_of_ble_eq_true rfl⟩, ⟨Nat.le_of_ble_eq_true rfl, Nat.le_of_ble_eq_true rfl⟩⟩ d_Gp_add_9 (fun x1 h_x1 => ?_)
  refine lv_if_ne (tgt := 23) hx hb d_Gp_add_12 (by decide) (fun c_12 => ?_) (fun q9 => absurd q9 (fun q9 => by rcases h_x1 with h9 | h9; rw [h9.2] at q9; exact absurd q9 (by decide); exact h9.1 hok.2))
  refine lv_aload_n hx hb d_Gp_add_23 rfl (lv_at hl 0 rfl) ?_
  refine lv_iload_n hx hb d_Gp_add_24 rfl (lv_at hl 1 rfl) ?_
  refine gp_V (As := [.int n1]) (rest := []) M hK hI (c_Gp_placeOf l n1 o arr fed sent places plain gained check hO) k_Gp_placeOf m_Gp_56 hO (ci := 5) rfl (fun x hx => ⟨_, hx⟩) rfl hl.1 rfl (Nat.le_of_ble_eq_true rfl) ⟨rfl, rfl, ⟨Nat.le_of_ble_eq_true rfl, Nat.le_of_ble_eq_true rfl⟩, ⟨Nat.le_of_ble_eq_true rfl, Nat.le_of_ble_eq_true rfl⟩⟩ d_Gp_add_25 (fun x2 h_x2 => ?_)
  subst h_x2
  refine lv_istore (lv' := [(9, .int 0), (0, .ref o), (1, .int n1), (2, .long kh), (4, .long kl), (6, .int n6), (7, .int n7), (8, .int n8)]) hx hb d_Gp_add_28 hl (by decide) rfl (fun ls hl => ?_)
  refine lv_aload_n hx hb d_Gp_add_30 rfl (lv_at hl 1 rfl) ?_
  refine gw_get M hK hI hO i_Gp rfl 1 (by decide) f_Gp_15 rfl (Pv := fun v => v = .int 0) (fun x hx => ⟨_, _, hx, rfl, rfl⟩) d_Gp_add_31 (fun v hv => ?_)
  subst hv
  refine lv_bipush (v := 16) hx hb d_Gp_add_34 (by decide) ?_
  refine lv_icmp_ge (tgt := 49) hx hb d_Gp_add_36 (by decide) (fun q9 => absurd q9 (by decide)) (fun c_36 => ?_)
  refine lv_aload_n hx hb d_Gp_add_39 rfl (lv_at hl 1 rfl) ?_
  refine lv_iload hx hb d_Gp_add_40 (lv_at hl 0 rfl) ?_
  refine lv_iload_n hx hb d_Gp_add_42 rfl (lv_at hl 2 rfl) ?_
  refine gp_V (As := [.int 0, .int n1]) (rest := []) M hK hI (c_Gp_isAt l n1 o arr fed sent places plain gained check hO) k_Gp_isAt m_Gp_60 hO (ci := 5) rfl (fun x hx => ⟨_, hx⟩) rfl hl.1 rfl (Nat.le_of_ble_eq_true rfl) ⟨rfl, rfl, ⟨Nat.le_of_ble_eq_true rfl, Nat.le_of_ble_eq_true rfl⟩, ⟨Nat.le_of_ble_eq_true rfl, Nat.le_of_ble_eq_true rfl⟩⟩ d_Gp_add_43 (fun x3 h_x3 => ?_)
  subst h_x3
  refine lv_if_eq (tgt := 51) hx hb d_Gp_add_46 (by decide) (fun c_46 => ?_) (fun q9 => absurd (by decide) q9)
  refine lv_aload_n hx hb d_Gp_add_51 rfl (lv_at hl 1 rfl) ?_
  refine gw_get M hK hI hO i_Gp rfl 0 (by decide) f_Gp_11 rfl (Pv := fun v => v = .ref arr) (fun x hx => ⟨_, _, hx, rfl, rfl⟩) d_Gp_add_52 (fun v hv => ?_)
  subst hv
  refine lv_aload_n hx hb d_Gp_add_55 rfl (lv_at hl 1 rfl) ?_
  refine gw_get M hK hI hO i_Gp rfl 1 (by decide) f_Gp_15 rfl (Pv := fun v => v = .int 0) (fun x hx => ⟨_, _, hx, rfl, rfl⟩) d_Gp_add_56 (fun v hv => ?_)
  subst hv
  refine gw_aald M hK hI 4 rfl hArr (vp_in_nI (n := 0) (by decide) (by decide)) d_Gp_add_59 (fun r4 h_r4 => ?_)
  subst h_r4
  refine W.eq (g2 := F0 m 60 ls [.ref (as 0)]) rfl ?_
  refine lv_astore (lv' := [(10, .ref (as 0)), (9, .int 0), (0, .ref o), (1, .int n1), (2, .long kh), (4, .long kl), (6, .int n6), (7, .int n7), (8, .int n8)]) hx hb d_Gp_add_60 hl (by decide) rfl (fun ls hl => ?_)
  refine lv_aload_n hx hb d_Gp_add_62 rfl (lv_at hl 2 rfl) ?_
  refine gw_get M hK hI hO i_Gp rfl 1 (by decide) f_Gp_15 rfl (Pv := fun v => v = .int 0) (fun x hx => ⟨_, _, hx, rfl, rfl⟩) d_Gp_add_63 (fun v hv => ?_)
  subst hv
  refine lv_istore (lv' := [(11, .int 0), (10, .ref (as 0)), (9, .int 0), (0, .ref o), (1, .int n1), (2, .long kh), (4, .long kl), (6, .int n6), (7, .int n7), (8, .int n8)]) hx hb d_Gp_add_66 hl (by decide) rfl (fun ls hl => ?_)
  refine lv_iload hx hb d_Gp_add_68 (lv_at hl 0 rfl) ?_
  refine lv_iload hx hb d_Gp_add_70 (lv_at hl 2 rfl) ?_
  refine lv_icmp_le (tgt := 97) hx hb d_Gp_add_72 (by decide) (fun c_72 => ?_) (fun q9 => absurd (by decide) q9)
  refine lv_aload_n hx hb d_Gp_add_97 rfl (lv_at hl 3 rfl) ?_
  refine gw_get M hK hI hO i_Gp rfl 0 (by decide) f_Gp_11 rfl (Pv := fun v => v = .ref arr) (fun x hx => ⟨_, _, hx, rfl, rfl⟩) d_Gp_add_98 (fun v hv => ?_)
  subst hv
  refine lv_iload hx hb d_Gp_add_101 (lv_at hl 2 rfl) ?_
  refine lv_aload hx hb d_Gp_add_103 (lv_at hl 1 rfl) ?_
  obtain ⟨-, x9, ⟨f9, hf9, rfl⟩, hat⟩ := hI.1.2.2 arr _ hArr
  refine gw_aast M hK hI 4 0 rfl rfl hArr hat ha1 (fun x hx => by obtain ⟨u2, u3, u4, u5, u6, u7, u8, u9, v1, v2, h_u4, q9⟩ := hx; exact ⟨_, q9⟩) (vp_in_nI (n := 0) (by decide) (by decide)) (kR D 4 16 (fun j b => b = as j)) ⟨_, arr_keep hf9, rfl⟩ d_Gp_add_105 (fun H locs hI => ?_)
  rw [gw_up_id hArr] at hI
  refine lv_aload_n hx hb d_Gp_add_106 rfl (lv_at hl 3 rfl) ?_
  refine lv_dup hx hb d_Gp_add_107 rfl ?_
  refine gw_get M hK hI hO i_Gp rfl 1 (by decide) f_Gp_15 rfl (Pv := fun v => v = .int 0) (fun x hx => ⟨_, _, hx, rfl, rfl⟩) d_Gp_add_108 (fun v hv => ?_)
  subst hv
  refine lv_iconst (v := 1) hx hb d_Gp_add_111 (by decide) ?_
  refine lv_iadd hx hb d_Gp_add_112 ?_
  refine lv_topi (fun x5 e_x5 => ?_)
  refine gw_put M hK hI hO i_Gp t_Gp tk_Gp n_Gp rfl 1 (by decide) f_Gp_15 rfl rfl rfl (kx (.inr (5, [.ref arr, .int x5, .ref fed, .ref sent, .ref places, .ref plain, .ref gained, .ref check]))) (fun x hx => ⟨_, hx, Nat.le_of_ble_eq_true rfl, rfl⟩) d_Gp_add_113 (fun H locs hI => ?_)
  obtain ⟨G6, hE_G6⟩ : ∃ z9, gw_up G o (kx (.inr (5, [.ref arr, .int x5, .ref fed, .ref sent, .ref places, .ref plain, .ref gained, .ref check]))) = z9 := ⟨_, rfl⟩
  rw [hE_G6] at hI
  have hG8 : G6 o = some (kx (.inr (5, [.ref arr, .int x5, .ref fed, .ref sent, .ref places, .ref plain, .ref gained, .ref check]))) := by rw [← hE_G6]; exact gw_up_s
  have hs7 : gw_fr (fun b => b = o) G G6 := by rw [← hE_G6]; exact gw_fr.up rfl
  refine lv_aload hx hb d_Gp_add_116 (lv_at hl 1 rfl) ?_
  refine lv_iload_n hx hb d_Gp_add_118 rfl (lv_at hl 4 rfl) ?_
  refine lv_iload hx hb d_Gp_add_119 (lv_at hl 7 rfl) ?_
  refine lv_iload hx hb d_Gp_add_121 (lv_at hl 8 rfl) ?_
  refine lv_iload hx hb d_Gp_add_123 (lv_at hl 9 rfl) ?_
  have hG9 : G6 (as 0) = some (kAs ci wi) := (hs7 (as 0) _ ha1 (ne_x hO ha1 (fun q => by obtain ⟨u2, u3, u4, u5, u6, u7, u8, u9, v1, v2, h_u4, q9⟩ := q; cases q9)).symm)
  have hG10 : G6 wi = some (kWi bi) := (hs7 wi _ ha4 (ne_x hO ha4 (fun q => by obtain ⟨u1, u2, q9⟩ := q; cases q9)).symm)
  have hG11 : G6 bi = some (kA D 0 32 tT) := (hs7 bi _ ha5 (ne_x hO ha5 (fun q => by obtain ⟨f, -, q9⟩ := q; cases q9)).symm)
  have hG12 : G6 ci = some (kCi wo) := (hs7 ci _ ha2 (ne_x hO ha2 (fun q => by obtain ⟨u1, u2, q9⟩ := q; cases q9)).symm)
  have hG13 : G6 wo = some (kA D 0 44 tT) := (hs7 wo _ ha3 (ne_x hO ha3 (fun q => by obtain ⟨f, -, q9⟩ := q; cases q9)).symm)
  refine gw_Vv (As := [.int n1, .int n6, .int n7, .int n8]) (rest := []) M hK hI (c_As_begin l (as 0) ci wi bi n1 n6 n7 n8 h8 hG9 hG10 hG11) k_As_begin m_Gp_64 hG9 (ci := 0) rfl (fun x hx => by obtain ⟨u2, u3, u4, u5, u6, u7, u8, u9, v1, v2, h_u4, q9⟩ := hx; exact ⟨_, q9⟩) rfl hl.1 rfl (Nat.le_of_ble_eq_true rfl) ⟨rfl, rfl, ⟨Nat.le_of_ble_eq_true rfl, Nat.le_of_ble_eq_true rfl⟩, ⟨Nat.le_of_ble_eq_true rfl, Nat.le_of_ble_eq_true rfl⟩⟩ d_Gp_add_125 (fun G9 H locs hw hI => ?_)
  rw [hw] at hI
  refine lv_aload hx hb d_Gp_add_128 (lv_at hl 1 rfl) ?_
  refine lv_lload_n hx hb d_Gp_add_130 rfl (lv_at hl 5 rfl) ?_
  refine lv_lload hx hb d_Gp_add_131 (lv_at hl 6 rfl) ?_
  refine gw_Vv (As := [.long kh, .long kl]) (rest := []) M hK hI (c_As_takeKey l (as 0) ci wi wo kh kl hG9 hG12 hG13) k_As_takeKey m_Gp_68 hG9 (ci := 0) rfl (fun x hx => by obtain ⟨u2, u3, u4, u5, u6, u7, u8, u9, v1, v2, h_u4, q9⟩ := hx; exact ⟨_, q9⟩) rfl hl.1 rfl (Nat.le_of_ble_eq_true rfl) ⟨rfl, rfl, ⟨Nat.le_of_ble_eq_true rfl, Nat.le_of_ble_eq_true rfl⟩, ⟨Nat.le_of_ble_eq_true rfl, Nat.le_of_ble_eq_true rfl⟩⟩ d_Gp_add_133 (fun G9 H locs hw hI => ?_)
  rw [hw] at hI
  refine lv_iconst (v := 1) hx hb d_Gp_add_136 (by decide) ?_
  exact gw_zret M hr rfl hlo hI d_Gp_add_137 (⟨rfl, by rw [← hE_G6, e_x5]; rfl⟩)
