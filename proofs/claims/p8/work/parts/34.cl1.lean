theorem ml_s {y i z : Int32} {n : Nat} (c : ¬ i ≤ y) (e : z = y + 1) (hm : (i.toInt - y.toInt).toNat < n + 1) : (i.toInt - z.toInt).toNat < n := by
  rw [Int32.le_iff_toInt_le] at c
  have h1 := Int32.toInt_lt i
  have h0 := Int32.le_toInt y
  have e1 : (1 : Int32).toInt = 1 := rfl
  have h2 : (y + 1).toInt = y.toInt + 1 := by
    have h3 := ti_add (x := y) (y := 1) (by omega) (by omega)
    omega
  rw [e]
  omega

abbrev rm_Ro_appendRow : Room := { frames := 1, cells := 0, slots := 0, locals := 22 }
set_option maxHeartbeats 4000000 in
set_option maxRecDepth 100000 in
theorem c_Ro_appendRow (l : Launch) {D : gw_D} {Hs : Heap} {G : gw_G} (i2 i3 : Int32) (b2 q2 n2 : Nat) (hn2 : n2 < 2 ^ 31) {K2 : va_E → Prop} (hA2 : G b2 = some K2) (hR2 : isRw K2 q2 n2) (hQ2 : G q2 = some (kA D 1 n2 tT)) (a q n : Nat) (hn : n < 2 ^ 31) (hA : G a = some (kRo q n)) (hQ : G q = some (kA D 1 n tT)) : Met l y_Ro_appendRow (Cond.code y_Ro_appendRow b_Ro_appendRow 5 none :: tb) rm_Ro_appendRow (gw_Pc D Hs G [.ref a, .ref b2, .int i2, .int i3]) (gw_Qv D Hs (fun G1 => G1 = G)) 0 0 (gw_A Hs) := by
  refine gw_met (by decide) (Nat.le_of_ble_eq_true rfl) ?_
  intro p e s m args below meth c M hK hr hlo hin hI ls hl
  have hx := M.1
  have hb := M.2.1
  have hl : lv_has ls 5 [(0, .ref a), (1, .ref b2), (2, .int i2), (3, .int i3)] := hl
  refine lv_iload_n hx hb d_Ro_appendRow_0 rfl (lv_at hl 2 rfl) ?_
  refine lv_istore (lv' := [(4, .int i2), (0, .ref a), (1, .ref b2), (2, .int i2), (3, .int i3)]) hx hb d_Ro_appendRow_1 hl (by decide) rfl (fun ls hl => ?_)
  have L_3 : ∀ (n9 : Nat) (y4 : Int32) (H : Heap) (locs : List Loc) (ls : Array Slot), (i3.toInt - y4.toInt).toNat < n9 → gw_I D Hs G s.heap H locs → lv_has ls 5 [(4, .int y4), (0, .ref a), (1, .ref b2), (2, .int i2), (3, .int i3)] → W p l e rm_Ro_appendRow s m args below meth c H locs 0 0 (MQ below (gw_Qv D Hs (fun G1 => G1 = G)) args s 0 0 (gw_A Hs)) (F0 m 3 ls []) := by
    intro n9
    induction n9 with
    | zero =>
      intro y4 H locs ls  hm hI hl
      exact absurd hm (Nat.not_lt_zero _)
    | succ n9 ih_3 =>
      intro y4 H locs ls  hm_3 hI hl
      refine lv_iload hx hb d_Ro_appendRow_3 (lv_at hl 0 rfl) ?_
      refine lv_iload_n hx hb d_Ro_appendRow_5 rfl (lv_at hl 4 rfl) ?_
      refine lv_icmp_ge (tgt := 26) hx hb d_Ro_appendRow_6 (by decide) (fun c_6 => ?_) (fun c_6 => ?_)
      · exact gw_vret M hr hlo hI d_Ro_appendRow_26 rfl
      · refine lv_aload_n hx hb d_Ro_appendRow_9 rfl (lv_at hl 1 rfl) ?_
        refine lv_aload_n hx hb d_Ro_appendRow_10 rfl (lv_at hl 2 rfl) ?_
        refine lv_iload hx hb d_Ro_appendRow_11 (lv_at hl 0 rfl) ?_
        refine lv_i2l hx hb d_Ro_appendRow_13 rfl ?_
        refine gw_Vi (As := [.long ((y4).toInt64)]) (rest := [.ref a]) M hK hI (c_Ro_at l ((y4).toInt64) b2 q2 n2 hn2 hA2 hR2 hQ2) k_Ro_at m_Ro_25 hA2 (ci := 3) rfl (fun x hx => by obtain ⟨k9, t9, h9, q9⟩ := hR2 x hx; exact ⟨_, q9⟩) rfl hl.1 rfl (Nat.le_of_ble_eq_true rfl) ⟨rfl, rfl, ⟨Nat.le_of_ble_eq_true rfl, Nat.le_of_ble_eq_true rfl⟩, ⟨Nat.le_of_ble_eq_true rfl, Nat.le_of_ble_eq_true rfl⟩⟩ d_Ro_appendRow_14 (fun x1 G9 H locs hw hI => ?_)
        rw [hw] at hI
        refine gw_Vv (As := [.int x1]) (rest := []) M hK hI (c_Ro_append l x1 a q n hn hA hQ) k_Ro_append m_Ro_21 hA (ci := 3) rfl (fun x hx => by obtain ⟨u1, u2, h_u1, h_u2, q9⟩ := hx; exact ⟨_, q9⟩) rfl hl.1 rfl (Nat.le_of_ble_eq_true rfl) ⟨rfl, rfl, ⟨Nat.le_of_ble_eq_true rfl, Nat.le_of_ble_eq_true rfl⟩, ⟨Nat.le_of_ble_eq_true rfl, Nat.le_of_ble_eq_true rfl⟩⟩ d_Ro_appendRow_17 (fun G9 H locs hw hI => ?_)
        rw [hw] at hI
        obtain ⟨x3, e_x3⟩ : ∃ ww9 : Int32, ww9 = y4 + 1 := ⟨_, rfl⟩
        refine lv_iinc (v := x3) (lv' := [(4, .int x3), (0, .ref a), (1, .ref b2), (2, .int i2), (3, .int i3)]) hx hb d_Ro_appendRow_20 hl (k := 0) rfl (by rw [e_x3]; rfl) (by decide) rfl (fun ls hl => ?_)
        refine lv_goto (tgt := 3) hx hb d_Ro_appendRow_23 (by decide) ?_
        exact ih_3 x3 _ _ _  (ml_s c_6 e_x3 hm_3) hI (lv_sub hl [0, 1, 2, 3, 4] rfl)
  exact L_3 _ i2 _ _ _  (Nat.lt_succ_self _) hI (lv_sub hl [0, 1, 2, 3, 4] rfl)

abbrev rm_Ro_become : Room := { frames := 2, cells := 0, slots := 0, locals := 46 }
set_option maxHeartbeats 4000000 in
set_option maxRecDepth 100000 in
theorem c_Ro_become (l : Launch) {D : gw_D} {Hs : Heap} {G : gw_G} (b2 q2 n2 : Nat) (hn2 : n2 < 2 ^ 31) (hA2 : G b2 = some (kRo q2 n2)) (hQ2 : G q2 = some (kA D 1 n2 tT)) (a q n : Nat) (hn : n < 2 ^ 31) (hA : G a = some (kRo q n)) (hQ : G q = some (kA D 1 n tT)) : Met l y_Ro_become (Cond.code y_Ro_become b_Ro_become 2 none :: tb) rm_Ro_become (gw_Pc D Hs G [.ref a, .ref b2]) (gw_Qv D Hs (fun G1 => G1 = G)) 0 0 (gw_A Hs) := by
  refine gw_met (by decide) (Nat.le_of_ble_eq_true rfl) ?_
  intro p e s m args below meth c M hK hr hlo hin hI ls hl
  have hx := M.1
  have hb := M.2.1
  have hl : lv_has ls 2 [(0, .ref a), (1, .ref b2)] := hl
  refine lv_aload_n hx hb d_Ro_become_0 rfl (lv_at hl 0 rfl) ?_
  refine lv_iconst (v := 0) hx hb d_Ro_become_1 (by decide) ?_
  refine gw_put M hK hI hA i_Ro t_Ro tk_Ro n_Ro rfl 1 (by decide) f_Ro_7 rfl rfl rfl (kRo q n) (fun x hx => by obtain ⟨u1, u2, h_u1, h_u2, q9⟩ := hx; exact ⟨_, q9, Nat.le_of_ble_eq_true rfl, ⟨_, u2, ⟨0, Nat.zero_le _, rfl⟩, h_u2, rfl⟩⟩) d_Ro_become_2 (fun H locs hI => ?_)
  rw [gw_up_id hA] at hI
  refine lv_aload_n hx hb d_Ro_become_5 rfl (lv_at hl 0 rfl) ?_
  refine lv_aload_n hx hb d_Ro_become_6 rfl (lv_at hl 1 rfl) ?_
  refine lv_iconst (v := 0) hx hb d_Ro_become_7 (by decide) ?_
  refine lv_aload_n hx hb d_Ro_become_8 rfl (lv_at hl 1 rfl) ?_
  refine gw_get M hK hI hA2 i_Ro rfl 1 (by decide) f_Ro_7 rfl (Pv := fun v => ∃ x9 : Int32, v = .int x9 ∧ (∃ k, k ≤ n2 ∧ x9 = nI k)) (fun x hx => by obtain ⟨u1, u2, h_u1, h_u2, q9⟩ := hx; exact ⟨_, _, q9, rfl, _, rfl, h_u1⟩) d_Ro_become_9 (fun v hv => ?_)
  obtain ⟨x1, rfl, h_x1⟩ := hv
  refine gw_Vv (As := [.ref b2, .int 0, .int x1]) (rest := []) M hK hI (c_Ro_appendRow l 0 x1 b2 q2 n2 hn2 hA2 isRw_Ro hQ2 a q n hn hA hQ) k_Ro_appendRow m_Ro_29 hA (ci := 3) rfl (fun x hx => by obtain ⟨u1, u2, h_u1, h_u2, q9⟩ := hx; exact ⟨_, q9⟩) rfl hl.1 rfl (Nat.le_of_ble_eq_true rfl) ⟨rfl, rfl, ⟨Nat.le_of_ble_eq_true rfl, Nat.le_of_ble_eq_true rfl⟩, ⟨Nat.le_of_ble_eq_true rfl, Nat.le_of_ble_eq_true rfl⟩⟩ d_Ro_become_12 (fun G9 H locs hw hI => ?_)
  rw [hw] at hI
  refine lv_aload_n hx hb d_Ro_become_15 rfl (lv_at hl 0 rfl) ?_
  refine lv_aload_n hx hb d_Ro_become_16 rfl (lv_at hl 1 rfl) ?_
  refine gw_get M hK hI hA2 i_Ro rfl 2 (by decide) f_Ro_13 rfl (Pv := fun v => ∃ x9 : Int32, v = .int x9 ∧ (x9 = 0 ∨ x9 = 1)) (fun x hx => by obtain ⟨u1, u2, h_u1, h_u2, q9⟩ := hx; exact ⟨_, _, q9, rfl, _, rfl, h_u2⟩) d_Ro_become_17 (fun v hv => ?_)
  obtain ⟨x3, rfl, h_x3⟩ := hv
  refine gw_put M hK hI hA i_Ro t_Ro tk_Ro n_Ro rfl 2 (by decide) f_Ro_13 rfl (by rcases h_x3 with rfl | rfl <;> rfl) (by rcases h_x3 with rfl | rfl <;> rfl) (kRo q n) (fun x hx => by obtain ⟨u1, u2, h_u1, h_u2, q9⟩ := hx; exact ⟨_, q9, Nat.le_of_ble_eq_true rfl, ⟨u1, _, h_u1, h_x3, rfl⟩⟩) d_Ro_become_20 (fun H locs hI => ?_)
  rw [gw_up_id hA] at hI
  exact gw_vret M hr hlo hI d_Ro_become_23 rfl

abbrev rm_Wi_beginj : Room := { frames := 0, cells := 0, slots := 0, locals := 0 }
set_option maxHeartbeats 4000000 in
set_option maxRecDepth 100000 in
theorem c_Wi_beginj (l : Launch) {D : gw_D} {Hs : Heap} {G : gw_G} (n0 : Int32) (hn0 : okV n0) (a bi : Nat) (hA : G a = some (kWj bi)) (hB : G bi = some (kA D 0 32 tT)) : Met l y_Wi_begin (Cond.code y_Wi_begin b_Wi_begin 3 none :: tb) rm_Wi_beginj (gw_Pc D Hs G [.ref a, .int n0]) (gw_Qv D Hs (fun G1 => G1 = G)) 0 0 (gw_A Hs) := by
  refine gw_met (by decide) (Nat.le_of_ble_eq_true rfl) ?_
  intro p e s m args below meth c M hK hr hlo hin hI ls hl
  have hx := M.1
  have hb := M.2.1
  have hl : lv_has ls 3 [(0, .ref a), (1, .int n0)] := hl
  refine lv_iconst (v := 0) hx hb d_Wi_begin_0 (by decide) ?_
  refine lv_istore_n (lv' := [(2, .int 0), (0, .ref a), (1, .int n0)]) hx hb d_Wi_begin_1 rfl hl (by decide) rfl (fun ls hl => ?_)
  have L_2 : ∀ (n9 : Nat) (k : Nat) (y2 : Int32) (H : Heap) (locs : List Loc) (ls : Array Slot), k ≤ 32 → y2 = nI k → 32 - k < n9 → gw_I D Hs G s.heap H locs → lv_has ls 3 [(2, .int y2), (0, .ref a), (1, .int n0)] → W p l e rm_Wi_beginj s m args below meth c H locs 0 0 (MQ below (gw_Qv D Hs (fun G1 => G1 = G)) args s 0 0 (gw_A Hs)) (F0 m 2 ls []) := by
    intro n9
    induction n9 with
    | zero =>
      intro k y2 H locs ls h32 hk hm hI hl
      exact absurd hm (Nat.not_lt_zero _)
    | succ n9 ih_2 =>
      intro k y2 H locs ls h32 hk hm_2 hI hl
      refine lv_iload_n hx hb d_Wi_begin_2 rfl (lv_at hl 0 rfl) ?_
      refine lv_aload_n hx hb d_Wi_begin_3 rfl (lv_at hl 1 rfl) ?_
      refine gw_get M hK hI hA i_Wi rfl 0 (by decide) f_Wi_9 rfl (Pv := fun v => v = .ref bi) (fun x hx => by obtain ⟨u1, u2, h_u1, h_u2, q9⟩ := hx; exact ⟨_, _, q9, rfl, rfl⟩) d_Wi_begin_4 (fun v hv => ?_)
      subst hv
      refine gw_alen M hK hI hB 0 32 rfl (fun x hx => by obtain ⟨f9, h9, q9⟩ := hx; exact ⟨_, q9⟩) d_Wi_begin_7 ?_
      refine lv_icmp_ge (tgt := 24) hx hb d_Wi_begin_8 (by decide) (fun c_8 => ?_) (fun c_8 => ?_)
      · refine lv_aload_n hx hb d_Wi_begin_24 rfl (lv_at hl 1 rfl) ?_
        refine lv_iload_n hx hb d_Wi_begin_25 rfl (lv_at hl 2 rfl) ?_
        refine gw_put M hK hI hA i_Wi t_Wi tk_Wi n_Wi rfl 1 (by decide) f_Wi_15 rfl rfl rfl (kWj bi) (fun x hx => by obtain ⟨u1, u2, h_u1, h_u2, q9⟩ := hx; exact ⟨_, q9, Nat.le_of_ble_eq_true rfl, ⟨_, u2, hn0, h_u2, rfl⟩⟩) d_Wi_begin_26 (fun H locs hI => ?_)
        rw [gw_up_id hA] at hI
        refine lv_aload_n hx hb d_Wi_begin_29 rfl (lv_at hl 1 rfl) ?_
        refine lv_lconst (v := 0) hx hb d_Wi_begin_30 (by decide) ?_
        refine gw_put M hK hI hA i_Wi t_Wi tk_Wi n_Wi rfl 2 (by decide) f_Wi_19 rfl rfl rfl (kWj bi) (fun x hx => by obtain ⟨u1, u2, h_u1, h_u2, q9⟩ := hx; exact ⟨_, q9, Nat.le_of_ble_eq_true rfl, ⟨u1, _, h_u1, (by decide), rfl⟩⟩) d_Wi_begin_31 (fun H locs hI => ?_)
        rw [gw_up_id hA] at hI
        exact gw_vret M hr hlo hI d_Wi_begin_34 rfl
      · have hlt : k < 32 := nb_lt (n := 32) hk c_8 (by decide) (z_31 h32)
        refine lv_aload_n hx hb d_Wi_begin_11 rfl (lv_at hl 1 rfl) ?_
        refine gw_get M hK hI hA i_Wi rfl 0 (by decide) f_Wi_9 rfl (Pv := fun v => v = .ref bi) (fun x hx => by obtain ⟨u1, u2, h_u1, h_u2, q9⟩ := hx; exact ⟨_, _, q9, rfl, rfl⟩) d_Wi_begin_12 (fun v hv => ?_)
        subst hv
        refine lv_iload_n hx hb d_Wi_begin_15 rfl (lv_at hl 0 rfl) ?_
        refine lv_iconst (v := 0) hx hb d_Wi_begin_16 (by decide) ?_
        refine gw_iast M hK hI hB (nb_in hk hlt) trivial d_Wi_begin_17 (fun H locs hI => ?_)
        obtain ⟨x1, e_x1⟩ : ∃ ww9 : Int32, ww9 = y2 + 1 := ⟨_, rfl⟩
        refine lv_iinc (v := x1) (lv' := [(2, .int x1), (0, .ref a), (1, .int n0)]) hx hb d_Wi_begin_18 hl (k := 0) rfl (by rw [e_x1]; rfl) (by decide) rfl (fun ls hl => ?_)
        refine lv_goto (tgt := 2) hx hb d_Wi_begin_21 (by decide) ?_
        exact ih_2 (k + 1) x1 _ _ _ hlt (nb_s e_x1 hk) (z_m hm_2 hlt) hI (lv_sub hl [0, 1, 2] rfl)
  exact L_2 _ 0 0 _ _ _ (Nat.zero_le _) rfl (Nat.lt_succ_self _) hI (lv_sub hl [0, 1, 2] rfl)

abbrev rm_As_beginj : Room := { frames := 1, cells := 0, slots := 0, locals := 22 }
set_option maxHeartbeats 4000000 in
set_option maxRecDepth 100000 in
theorem c_As_beginj (l : Launch) {D : gw_D} {Hs : Heap} {G : gw_G} (n1 n2 n3 n4 : Int32) (h4 : n4 = 0 ∨ n4 = 1) (h3 : okV n3) (a ci wi : Nat) (tt xt : Int32) (la : Int64) (li : Int32) (hA : G a = some (kAp ci wi tt xt la li)) (bi : Nat) (hW : G wi = some (kWj bi)) (hB : G bi = some (kA D 0 32 tT)) : Met l y_As_begin (Cond.code y_As_begin b_As_begin 5 none :: tb) rm_As_beginj (gw_Pc D Hs G [.ref a, .int n1, .int n2, .int n3, .int n4]) (gw_Qv D Hs (fun G1 => G1 = gw_up G a (kAp ci wi n1 n4 0 1000000000))) 0 0 (gw_A Hs) := by
  refine gw_met (by decide) (Nat.le_of_ble_eq_true rfl) ?_
  intro p e s m args below meth c M hK hr hlo hin hI ls hl
  have hx := M.1
  have hb := M.2.1
  have hl : lv_has ls 5 [(0, .ref a), (1, .int n1), (2, .int n2), (3, .int n3), (4, .int n4)] := hl
  have hI0 := hI
  refine lv_aload_n hx hb d_As_begin_0 rfl (lv_at hl 0 rfl) ?_
  refine lv_iload_n hx hb d_As_begin_1 rfl (lv_at hl 1 rfl) ?_
  refine gw_put M hK hI hA i_As t_As tk_As n_As rfl 2 (by decide) f_As_23 rfl rfl rfl (kAp ci wi n1 xt la li) (fun x hx => by obtain ⟨u3, u5, u6, u9, v1, v2, q9⟩ := hx; exact ⟨_, q9, Nat.le_of_ble_eq_true rfl, ⟨u3, u5, u6, u9, v1, v2, rfl⟩⟩) d_As_begin_2 (fun H locs hI => ?_)
  obtain ⟨G1, hE_G1⟩ : ∃ z9, gw_up G a (kAp ci wi n1 xt la li) = z9 := ⟨_, rfl⟩
  rw [hE_G1] at hI
  have hG3 : G1 a = some (kAp ci wi n1 xt la li) := by rw [← hE_G1]; exact gw_up_s
  have hs2 : gw_fr (fun b => b = a) G G1 := by rw [← hE_G1]; exact gw_fr.up rfl
  refine lv_aload_n hx hb d_As_begin_5 rfl (lv_at hl 0 rfl) ?_
  refine lv_iload_n hx hb d_As_begin_6 rfl (lv_at hl 2 rfl) ?_
  refine gw_put M hK hI hG3 i_As t_As tk_As n_As rfl 3 (by decide) f_As_27 rfl rfl rfl (kAp ci wi n1 xt la li) (fun x hx => by obtain ⟨u3, u5, u6, u9, v1, v2, q9⟩ := hx; exact ⟨_, q9, Nat.le_of_ble_eq_true rfl, ⟨_, u5, u6, u9, v1, v2, rfl⟩⟩) d_As_begin_7 (fun H locs hI => ?_)
  rw [gw_up_id hG3] at hI
  refine lv_aload_n hx hb d_As_begin_10 rfl (lv_at hl 0 rfl) ?_
  refine lv_iload hx hb d_As_begin_11 (lv_at hl 4 rfl) ?_
  refine gw_put M hK hI hG3 i_As t_As tk_As n_As rfl 4 (by decide) f_As_30 rfl (by rcases h4 with rfl | rfl <;> rfl) (by rcases h4 with rfl | rfl <;> rfl) (kAp ci wi n1 n4 la li) (fun x hx => by obtain ⟨u3, u5, u6, u9, v1, v2, q9⟩ := hx; exact ⟨_, q9, Nat.le_of_ble_eq_true rfl, ⟨u3, u5, u6, u9, v1, v2, rfl⟩⟩) d_As_begin_13 (fun H locs hI => ?_)
  obtain ⟨G4, hE_G4⟩ : ∃ z9, gw_up G1 a (kAp ci wi n1 n4 la li) = z9 := ⟨_, rfl⟩
  rw [hE_G4] at hI
  have hG6 : G4 a = some (kAp ci wi n1 n4 la li) := by rw [← hE_G4]; exact gw_up_s
  have hs5 : gw_fr (fun b => b = a) G1 G4 := by rw [← hE_G4]; exact gw_fr.up rfl
  refine lv_aload_n hx hb d_As_begin_16 rfl (lv_at hl 0 rfl) ?_
  refine lv_lconst (v := 0) hx hb d_As_begin_17 (by decide) ?_
  refine gw_put M hK hI hG6 i_As t_As tk_As n_As rfl 7 (by decide) f_As_41 rfl rfl rfl (kAp ci wi n1 n4 (0 : Int64) li) (fun x hx => by obtain ⟨u3, u5, u6, u9, v1, v2, q9⟩ := hx; exact ⟨_, q9, Nat.le_of_ble_eq_true rfl, ⟨u3, u5, u6, u9, v1, v2, rfl⟩⟩) d_As_begin_18 (fun H locs hI => ?_)
  obtain ⟨G7, hE_G7⟩ : ∃ z9, gw_up G4 a (kAp ci wi n1 n4 (0 : Int64) li) = z9 := ⟨_, rfl⟩
  rw [hE_G7] at hI
  have hG9 : G7 a = some (kAp ci wi n1 n4 (0 : Int64) li) := by rw [← hE_G7]; exact gw_up_s
  have hs8 : gw_fr (fun b => b = a) G4 G7 := by rw [← hE_G7]; exact gw_fr.up rfl
  refine lv_aload_n hx hb d_As_begin_21 rfl (lv_at hl 0 rfl) ?_
  refine lv_ldc (v := 1000000000) hx hb M.2.2.2.1 (M.2.2.2.2 _ o_As_56) d_As_begin_22 ?_
  refine gw_put M hK hI hG9 i_As t_As tk_As n_As rfl 8 (by decide) f_As_44 rfl rfl rfl (kAp ci wi n1 n4 (0 : Int64) (1000000000 : Int32)) (fun x hx => by obtain ⟨u3, u5, u6, u9, v1, v2, q9⟩ := hx; exact ⟨_, q9, Nat.le_of_ble_eq_true rfl, ⟨u3, u5, u6, u9, v1, v2, rfl⟩⟩) d_As_begin_24 (fun H locs hI => ?_)
  obtain ⟨G10, hE_G10⟩ : ∃ z9, gw_up G7 a (kAp ci wi n1 n4 (0 : Int64) (1000000000 : Int32)) = z9 := ⟨_, rfl⟩
  rw [hE_G10] at hI
  have hG12 : G10 a = some (kAp ci wi n1 n4 (0 : Int64) (1000000000 : Int32)) := by rw [← hE_G10]; exact gw_up_s
  have hs11 : gw_fr (fun b => b = a) G7 G10 := by rw [← hE_G10]; exact gw_fr.up rfl
  refine lv_aload_n hx hb d_As_begin_27 rfl (lv_at hl 0 rfl) ?_
  refine lv_lconst (v := 0) hx hb d_As_begin_28 (by decide) ?_
  refine gw_put M hK hI hG12 i_As t_As tk_As n_As rfl 9 (by decide) f_As_47 rfl rfl rfl (kAp ci wi n1 n4 (0 : Int64) (1000000000 : Int32)) (fun x hx => by obtain ⟨u3, u5, u6, u9, v1, v2, q9⟩ := hx; exact ⟨_, q9, Nat.le_of_ble_eq_true rfl, ⟨u3, u5, u6, _, v1, v2, rfl⟩⟩) d_As_begin_29 (fun H locs hI => ?_)
  rw [gw_up_id hG12] at hI
  refine lv_aload_n hx hb d_As_begin_32 rfl (lv_at hl 0 rfl) ?_
  refine lv_lconst (v := 0) hx hb d_As_begin_33 (by decide) ?_
  refine gw_put M hK hI hG12 i_As t_As tk_As n_As rfl 10 (by decide) f_As_50 rfl rfl rfl (kAp ci wi n1 n4 (0 : Int64) (1000000000 : Int32)) (fun x hx => by obtain ⟨u3, u5, u6, u9, v1, v2, q9⟩ := hx; exact ⟨_, q9, Nat.le_of_ble_eq_true rfl, ⟨u3, u5, u6, u9, _, v2, rfl⟩⟩) d_As_begin_34 (fun H locs hI => ?_)
  rw [gw_up_id hG12] at hI
  refine lv_aload_n hx hb d_As_begin_37 rfl (lv_at hl 0 rfl) ?_
  refine lv_lconst (v := 0) hx hb d_As_begin_38 (by decide) ?_
  refine gw_put M hK hI hG12 i_As t_As tk_As n_As rfl 11 (by decide) f_As_53 rfl rfl rfl (kAp ci wi n1 n4 (0 : Int64) (1000000000 : Int32)) (fun x hx => by obtain ⟨u3, u5, u6, u9, v1, v2, q9⟩ := hx; exact ⟨_, q9, Nat.le_of_ble_eq_true rfl, ⟨u3, u5, u6, u9, v1, _, rfl⟩⟩) d_As_begin_39 (fun H locs hI => ?_)
  rw [gw_up_id hG12] at hI
  refine lv_aload_n hx hb d_As_begin_42 rfl (lv_at hl 0 rfl) ?_
  refine gw_get M hK hI hG12 i_As rfl 1 (by decide) f_As_19 rfl (Pv := fun v => v = .ref wi) (fun x hx => by obtain ⟨u3, u5, u6, u9, v1, v2, q9⟩ := hx; exact ⟨_, _, q9, rfl, rfl⟩) d_As_begin_43 (fun v hv => ?_)
  subst hv
  refine lv_iload_n hx hb d_As_begin_46 rfl (lv_at hl 3 rfl) ?_
  have hG13 : G10 wi = some (kWj bi) := (hs11 wi _ (hs8 wi _ (hs5 wi _ (hs2 wi _ hW (gw_nec (u := 4) (v := 0) hI0 hW hA (fun x hx => by obtain ⟨u1, u2, h_u1, h_u2, q9⟩ := hx; rw [q9]; rfl) (fun x hx => by obtain ⟨u3, u5, u6, u9, v1, v2, q9⟩ := hx; rw [q9]; rfl) (by decide))) (gw_nec (u := 4) (v := 0) hI0 hW hA (fun x hx => by obtain ⟨u1, u2, h_u1, h_u2, q9⟩ := hx; rw [q9]; rfl) (fun x hx => by obtain ⟨u3, u5, u6, u9, v1, v2, q9⟩ := hx; rw [q9]; rfl) (by decide))) (gw_nec (u := 4) (v := 0) hI0 hW hA (fun x hx => by obtain ⟨u1, u2, h_u1, h_u2, q9⟩ := hx; rw [q9]; rfl) (fun x hx => by obtain ⟨u3, u5, u6, u9, v1, v2, q9⟩ := hx; rw [q9]; rfl) (by decide))) (gw_nec (u := 4) (v := 0) hI0 hW hA (fun x hx => by obtain ⟨u1, u2, h_u1, h_u2, q9⟩ := hx; rw [q9]; rfl) (fun x hx => by obtain ⟨u3, u5, u6, u9, v1, v2, q9⟩ := hx; rw [q9]; rfl) (by decide)))
  have hG14 : G10 bi = some (kA D 0 32 tT) := (hs11 bi _ (hs8 bi _ (hs5 bi _ (hs2 bi _ hB (gw_nec (u := 100) (v := 0) hI0 hB hA (fun x hx => by obtain ⟨f9, h9, q9⟩ := hx; rw [q9]; rfl) (fun x hx => by obtain ⟨u3, u5, u6, u9, v1, v2, q9⟩ := hx; rw [q9]; rfl) (by decide))) (gw_nec (u := 100) (v := 0) hI0 hB hA (fun x hx => by obtain ⟨f9, h9, q9⟩ := hx; rw [q9]; rfl) (fun x hx => by obtain ⟨u3, u5, u6, u9, v1, v2, q9⟩ := hx; rw [q9]; rfl) (by decide))) (gw_nec (u := 100) (v := 0) hI0 hB hA (fun x hx => by obtain ⟨f9, h9, q9⟩ := hx; rw [q9]; rfl) (fun x hx => by obtain ⟨u3, u5, u6, u9, v1, v2, q9⟩ := hx; rw [q9]; rfl) (by decide))) (gw_nec (u := 100) (v := 0) hI0 hB hA (fun x hx => by obtain ⟨f9, h9, q9⟩ := hx; rw [q9]; rfl) (fun x hx => by obtain ⟨u3, u5, u6, u9, v1, v2, q9⟩ := hx; rw [q9]; rfl) (by decide)))
  refine gw_Vv (As := [.int n3]) (rest := []) M hK hI (c_Wi_beginj l n3 h3 wi bi hG13 hG14) k_Wi_begin m_As_57 hG13 (ci := 4) rfl (fun x hx => by obtain ⟨u1, u2, h_u1, h_u2, q9⟩ := hx; exact ⟨_, q9⟩) rfl hl.1 rfl (Nat.le_of_ble_eq_true rfl) ⟨rfl, rfl, ⟨Nat.le_of_ble_eq_true rfl, Nat.le_of_ble_eq_true rfl⟩, ⟨Nat.le_of_ble_eq_true rfl, Nat.le_of_ble_eq_true rfl⟩⟩ d_As_begin_47 (fun G9 H locs hw hI => ?_)
  rw [hw] at hI
  exact gw_vret M hr hlo hI d_As_begin_50 (by first | rfl | exact hE_G10.symm | (rw [← hE_G10, ← hE_G7, ← hE_G4, ← hE_G1]; simp only [gw_up_up]) | (simp only [← hE_G10, ← hE_G7, ← hE_G4, ← hE_G1, gw_up_up]))

abbrev rm_As_takeKeyj : Room := { frames := 3, cells := 0, slots := 0, locals := 76 }
set_option maxHeartbeats 4000000 in
set_option maxRecDepth 100000 in
theorem c_As_takeKeyj (l : Launch) {D : gw_D} {Hs : Heap} {G : gw_G} (kh kl : Int64) (a ci wi : Nat) (tt xt : Int32) (la : Int64) (li : Int32) (hA : G a = some (kAp ci wi tt xt la li)) (wo : Nat) (hC : G ci = some (kCi wo)) (hO : G wo = some (kA D 0 44 tT)) : Met l y_As_takeKey (Cond.code y_As_takeKey b_As_takeKey 5 none :: tb) rm_As_takeKeyj (gw_Pc D Hs G [.ref a, .long kh, .long kl]) (gw_Qv D Hs (fun G1 => G1 = G)) 0 0 (gw_A Hs) := by
  refine gw_met (by decide) (Nat.le_of_ble_eq_true rfl) ?_
  intro p e s m args below meth c M hK hr hlo hin hI ls hl
  have hx := M.1
  have hb := M.2.1
  have hl : lv_has ls 5 [(0, .ref a), (1, .long kh), (3, .long kl)] := hl
  refine lv_aload_n hx hb d_As_takeKey_0 rfl (lv_at hl 0 rfl) ?_
  refine gw_get M hK hI hA i_As rfl 0 (by decide) f_As_10 rfl (Pv := fun v => v = .ref ci) (fun x hx => by obtain ⟨u3, u5, u6, u9, v1, v2, q9⟩ := hx; exact ⟨_, _, q9, rfl, rfl⟩) d_As_takeKey_1 (fun v hv => ?_)
  subst hv
  refine lv_lload_n hx hb d_As_takeKey_4 rfl (lv_at hl 1 rfl) ?_
  refine lv_lload_n hx hb d_As_takeKey_5 rfl (lv_at hl 2 rfl) ?_
  refine gw_Vv (As := [.long kh, .long kl]) (rest := []) M hK hI (c_Ci_takeKey l ci wo kh kl hC hO) k_Ci_takeKey m_As_61 hC (ci := 2) rfl (fun x hx => by obtain ⟨u1, u2, q9⟩ := hx; exact ⟨_, q9⟩) rfl hl.1 rfl (Nat.le_of_ble_eq_true rfl) ⟨rfl, rfl, ⟨Nat.le_of_ble_eq_true rfl, Nat.le_of_ble_eq_true rfl⟩, ⟨Nat.le_of_ble_eq_true rfl, Nat.le_of_ble_eq_true rfl⟩⟩ d_As_takeKey_6 (fun G9 H locs hw hI => ?_)
  rw [hw] at hI
  refine lv_aload_n hx hb d_As_takeKey_9 rfl (lv_at hl 0 rfl) ?_
  refine gw_get M hK hI hA i_As rfl 0 (by decide) f_As_10 rfl (Pv := fun v => v = .ref ci) (fun x hx => by obtain ⟨u3, u5, u6, u9, v1, v2, q9⟩ := hx; exact ⟨_, _, q9, rfl, rfl⟩) d_As_takeKey_10 (fun v hv => ?_)
  subst hv
  refine lv_iconst (v := 0) hx hb d_As_takeKey_13 (by decide) ?_
  refine lv_iconst (v := 0) hx hb d_As_takeKey_14 (by decide) ?_
  refine lv_iconst (v := 0) hx hb d_As_takeKey_15 (by decide) ?_
  refine lv_iconst (v := 0) hx hb d_As_takeKey_16 (by decide) ?_
  refine gw_Vv (As := [.int 0, .int 0, .int 0, .int 0]) (rest := []) M hK hI (c_Ci_encrypt l ci wo 0 0 0 0 hC hO) k_Ci_encrypt m_As_65 hC (ci := 2) rfl (fun x hx => by obtain ⟨u1, u2, q9⟩ := hx; exact ⟨_, q9⟩) rfl hl.1 rfl (Nat.le_of_ble_eq_true rfl) ⟨rfl, rfl, ⟨Nat.le_of_ble_eq_true rfl, Nat.le_of_ble_eq_true rfl⟩, ⟨Nat.le_of_ble_eq_true rfl, Nat.le_of_ble_eq_true rfl⟩⟩ d_As_takeKey_17 (fun G9 H locs hw hI => ?_)
  rw [hw] at hI
  refine lv_aload_n hx hb d_As_takeKey_20 rfl (lv_at hl 0 rfl) ?_
  refine lv_aload_n hx hb d_As_takeKey_21 rfl (lv_at hl 0 rfl) ?_
  refine gw_get M hK hI hA i_As rfl 0 (by decide) f_As_10 rfl (Pv := fun v => v = .ref ci) (fun x hx => by obtain ⟨u3, u5, u6, u9, v1, v2, q9⟩ := hx; exact ⟨_, _, q9, rfl, rfl⟩) d_As_takeKey_22 (fun v hv => ?_)
  subst hv
  refine gw_get M hK hI hC i_Ci rfl 1 (by decide) f_As_69 rfl (Pv := fun v => ∃ x9 : Int64, v = .long x9) (fun x hx => by obtain ⟨u1, u2, q9⟩ := hx; exact ⟨_, _, q9, rfl, _, rfl⟩) d_As_takeKey_25 (fun v hv => ?_)
  obtain ⟨x3, rfl⟩ := hv
  refine gw_put M hK hI hA i_As t_As tk_As n_As rfl 5 (by decide) f_As_34 rfl rfl rfl (kAp ci wi tt xt la li) (fun x hx => by obtain ⟨u3, u5, u6, u9, v1, v2, q9⟩ := hx; exact ⟨_, q9, Nat.le_of_ble_eq_true rfl, ⟨u3, _, u6, u9, v1, v2, rfl⟩⟩) d_As_takeKey_28 (fun H locs hI => ?_)
  rw [gw_up_id hA] at hI
  refine lv_aload_n hx hb d_As_takeKey_31 rfl (lv_at hl 0 rfl) ?_
  refine lv_aload_n hx hb d_As_takeKey_32 rfl (lv_at hl 0 rfl) ?_
  refine gw_get M hK hI hA i_As rfl 0 (by decide) f_As_10 rfl (Pv := fun v => v = .ref ci) (fun x hx => by obtain ⟨u3, u5, u6, u9, v1, v2, q9⟩ := hx; exact ⟨_, _, q9, rfl, rfl⟩) d_As_takeKey_33 (fun v hv => ?_)
  subst hv
  refine gw_get M hK hI hC i_Ci rfl 2 (by decide) f_As_72 rfl (Pv := fun v => ∃ x9 : Int64, v = .long x9) (fun x hx => by obtain ⟨u1, u2, q9⟩ := hx; exact ⟨_, _, q9, rfl, _, rfl⟩) d_As_takeKey_36 (fun v hv => ?_)
  obtain ⟨x4, rfl⟩ := hv
  refine gw_put M hK hI hA i_As t_As tk_As n_As rfl 6 (by decide) f_As_38 rfl rfl rfl (kAp ci wi tt xt la li) (fun x hx => by obtain ⟨u3, u5, u6, u9, v1, v2, q9⟩ := hx; exact ⟨_, q9, Nat.le_of_ble_eq_true rfl, ⟨u3, u5, _, u9, v1, v2, rfl⟩⟩) d_As_takeKey_39 (fun H locs hI => ?_)
  rw [gw_up_id hA] at hI
  exact gw_vret M hr hlo hI d_As_takeKey_42 rfl

abbrev rm_As_giveOut : Room := { frames := 3, cells := 0, slots := 0, locals := 68 }
set_option maxHeartbeats 4000000 in
set_option maxRecDepth 100000 in
theorem c_As_giveOut (l : Launch) {D : gw_D} {Hs : Heap} {G : gw_G} (i0 : Int64) (a ci wi : Nat) (tt xt : Int32) (la : Int64) (li : Int32) (hA : G a = some (kAp ci wi tt xt la li)) (bi : Nat) (hW : G wi = some (kWj bi)) (hB : G bi = some (kA D 0 32 tT)) : Met l y_As_giveOut (Cond.code y_As_giveOut b_As_giveOut 3 none :: tb) rm_As_giveOut (gw_Pc D Hs G [.ref a, .long i0]) (gw_Qv D Hs (fun G1 => G1 = G)) 0 0 (gw_A Hs) := by
  refine gw_met (by decide) (Nat.le_of_ble_eq_true rfl) ?_
  intro p e s m args below meth c M hK hr hlo hin hI ls hl
  have hx := M.1
  have hb := M.2.1
  have hl : lv_has ls 3 [(0, .ref a), (1, .long i0)] := hl
  refine lv_aload_n hx hb d_As_giveOut_0 rfl (lv_at hl 0 rfl) ?_
  refine gw_get M hK hI hA i_As rfl 1 (by decide) f_As_19 rfl (Pv := fun v => v = .ref wi) (fun x hx => by obtain ⟨u3, u5, u6, u9, v1, v2, q9⟩ := hx; exact ⟨_, _, q9, rfl, rfl⟩) d_As_giveOut_1 (fun v hv => ?_)
  subst hv
  refine lv_lload_n hx hb d_As_giveOut_4 rfl (lv_at hl 1 rfl) ?_
  refine gw_Vv (As := [.long i0]) (rest := []) M hK hI (c_Wi_take l i0 wi bi hW hB) k_Wi_take m_As_98 hW (ci := 4) rfl (fun x hx => by obtain ⟨u1, u2, h_u1, h_u2, q9⟩ := hx; exact ⟨_, q9⟩) rfl hl.1 rfl (Nat.le_of_ble_eq_true rfl) ⟨rfl, rfl, ⟨Nat.le_of_ble_eq_true rfl, Nat.le_of_ble_eq_true rfl⟩, ⟨Nat.le_of_ble_eq_true rfl, Nat.le_of_ble_eq_true rfl⟩⟩ d_As_giveOut_5 (fun G9 H locs hw hI => ?_)
  rw [hw] at hI
  refine lv_aload_n hx hb d_As_giveOut_8 rfl (lv_at hl 0 rfl) ?_
  refine lv_dup hx hb d_As_giveOut_9 rfl ?_
  refine gw_get M hK hI hA i_As rfl 9 (by decide) f_As_47 rfl (Pv := fun v => ∃ x9 : Int64, v = .long x9) (fun x hx => by obtain ⟨u3, u5, u6, u9, v1, v2, q9⟩ := hx; exact ⟨_, _, q9, rfl, _, rfl⟩) d_As_giveOut_10 (fun v hv => ?_)
  obtain ⟨x2, rfl⟩ := hv
  refine lv_lconst (v := 1) hx hb d_As_giveOut_13 (by decide) ?_
  refine lv_ladd hx hb d_As_giveOut_14 ?_
  refine lv_topl (fun x3 e_x3 => ?_)
  refine gw_put M hK hI hA i_As t_As tk_As n_As rfl 9 (by decide) f_As_47 rfl rfl rfl (kAp ci wi tt xt la li) (fun x hx => by obtain ⟨u3, u5, u6, u9, v1, v2, q9⟩ := hx; exact ⟨_, q9, Nat.le_of_ble_eq_true rfl, ⟨u3, u5, u6, _, v1, v2, rfl⟩⟩) d_As_giveOut_15 (fun H locs hI => ?_)
  rw [gw_up_id hA] at hI
  exact gw_vret M hr hlo hI d_As_giveOut_18 rfl

theorem mk_m {k n m : Nat} (hm : n + 16 - k < m + 1) (h : k < n) : n + 16 - (k + 16) < m := by omega

abbrev rm_As_mask : Room := { frames := 4, cells := 0, slots := 0, locals := 99 }
set_option maxHeartbeats 4000000 in
set_option maxRecDepth 100000 in
theorem c_As_mask (l : Launch) {D : gw_D} {Hs : Heap} {G : gw_G} (f0 : Nat) (hf0 : f0 ≤ 16) (i0 : Int64) (b2 q2 n2 : Nat) (hn2 : n2 ≤ 1000) (hA2 : G b2 = some (kRo q2 n2)) (hQ2 : G q2 = some (kA D 1 n2 tT)) (a ci wi : Nat) (tt xt : Int32) (la : Int64) (li : Int32) (hA : G a = some (kAp ci wi tt xt la li)) (wo : Nat) (hC : G ci = some (kCi wo)) (hO : G wo = some (kA D 0 44 tT)) : Met l y_As_mask (Cond.code y_As_mask b_As_mask 11 none :: tb) rm_As_mask (gw_Pc D Hs G [.ref a, .ref b2, .int (nI f0), .long i0]) (gw_Qv D Hs (fun G1 => G1 = G)) 0 0 (gw_A Hs) := by
  refine gw_met (by decide) (Nat.le_of_ble_eq_true rfl) ?_
  intro p e s m args below meth c M hK hr hlo hin hI ls hl
  have hx := M.1
  have hb := M.2.1
  have hl : lv_has ls 11 [(0, .ref a), (1, .ref b2), (2, .int (nI f0)), (3, .long i0)] := hl
  refine lv_iconst (v := 2) hx hb d_As_mask_0 (by decide) ?_
  refine lv_istore (lv' := [(5, .int 2), (0, .ref a), (1, .ref b2), (2, .int (nI f0)), (3, .long i0)]) hx hb d_As_mask_1 hl (by decide) rfl (fun ls hl => ?_)
  refine lv_iload_n hx hb d_As_mask_3 rfl (lv_at hl 3 rfl) ?_
  refine lv_istore (lv' := [(6, .int (nI f0)), (5, .int 2), (0, .ref a), (1, .ref b2), (2, .int (nI f0)), (3, .long i0)]) hx hb d_As_mask_4 hl (by decide) rfl (fun ls hl => ?_)
  have L_6 : ∀ (n9 : Nat) (k : Nat) (y6 : Int32) (y5 : Int32) (H : Heap) (locs : List Loc) (ls : Array Slot), k ≤ n2 + 16 → y6 = nI k → n2 + 16 - k < n9 → gw_I D Hs G s.heap H locs → lv_has ls 11 [(6, .int y6), (5, .int y5), (0, .ref a), (1, .ref b2), (2, .int (nI f0)), (3, .long i0)] → W p l e rm_As_mask s m args below meth c H locs 0 0 (MQ below (gw_Qv D Hs (fun G1 => G1 = G)) args s 0 0 (gw_A Hs)) (F0 m 6 ls []) := by
    intro n9
    induction n9 with
    | zero =>
      intro k y6 y5 H locs ls hkn hk hm hI hl
      exact absurd hm (Nat.not_lt_zero _)
    | succ n9 ih_6 =>
      intro k y6 y5 H locs ls hkn hk hm_6 hI hl
      refine lv_iload hx hb d_As_mask_6 (lv_at hl 0 rfl) ?_
      refine lv_aload_n hx hb d_As_mask_8 rfl (lv_at hl 3 rfl) ?_
      refine gw_get M hK hI hA2 i_Ro rfl 1 (by decide) f_As_102 rfl (Pv := fun v => ∃ x9 : Int32, v = .int x9 ∧ (∃ k, k ≤ n2 ∧ x9 = nI k)) (fun x hx => by obtain ⟨u1, u2, h_u1, h_u2, q9⟩ := hx; exact ⟨_, _, q9, rfl, _, rfl, h_u1⟩) d_As_mask_9 (fun v hv => ?_)
      obtain ⟨x1, rfl, h_x1⟩ := hv
      refine lv_icmp_ge (tgt := 123) hx hb d_As_mask_12 (by decide) (fun c_12 => ?_) (fun c_12 => ?_)
      · exact gw_vret M hr hlo hI d_As_mask_123 rfl
      · obtain ⟨k1, hk1, hx1⟩ := h_x1
        have hlt : k < n2 := Nat.lt_of_lt_of_le (nb_lt hk (by rw [← hx1]; exact c_12) (by omega) (by omega)) hk1
        refine lv_aload_n hx hb d_As_mask_15 rfl (lv_at hl 2 rfl) ?_
        refine lv_lload_n hx hb d_As_mask_16 rfl (lv_at hl 5 rfl) ?_
        refine lv_iload hx hb d_As_mask_17 (lv_at hl 1 rfl) ?_
        refine gw_Vv (As := [.long i0, .int y5]) (rest := []) M hK hI (c_As_encryptJ l i0 y5 a ci wi tt xt la li hA wo hC hO) k_As_encryptJ m_As_107 hA (ci := 0) rfl (fun x hx => by obtain ⟨u3, u5, u6, u9, v1, v2, q9⟩ := hx; exact ⟨_, q9⟩) rfl hl.1 rfl (Nat.le_of_ble_eq_true rfl) ⟨rfl, rfl, ⟨Nat.le_of_ble_eq_true rfl, Nat.le_of_ble_eq_true rfl⟩, ⟨Nat.le_of_ble_eq_true rfl, Nat.le_of_ble_eq_true rfl⟩⟩ d_As_mask_19 (fun G9 H locs hw hI => ?_)
        rw [hw] at hI
        refine lv_iload hx hb d_As_mask_22 (lv_at hl 0 rfl) ?_
        refine lv_bipush (v := 16) hx hb d_As_mask_24 (by decide) ?_
        refine lv_iadd hx hb d_As_mask_26 ?_
        refine lv_aload_n hx hb d_As_mask_27 rfl (lv_at hl 3 rfl) ?_
        refine gw_get M hK hI hA2 i_Ro rfl 1 (by decide) f_As_102 rfl (Pv := fun v => ∃ x9 : Int32, v = .int x9 ∧ (∃ k, k ≤ n2 ∧ x9 = nI k)) (fun x hx => by obtain ⟨u1, u2, h_u1, h_u2, q9⟩ := hx; exact ⟨_, _, q9, rfl, _, rfl, h_u1⟩) d_As_mask_28 (fun v hv => ?_)
        obtain ⟨x3, rfl, h_x3⟩ := hv
        refine va_mmin hx hb (by rw [M.2.2.1]; exact hl.1.symm) M.2.2.2.1 (M.2.2.2.2 _ m_As_111) (M.2.2.2.2 _ mm_s) (M.2.2.2.2 _ mm_z) (M.2.2.2.2 _ mm_c) (Nat.le_of_ble_eq_true rfl) (Nat.le_of_ble_eq_true rfl) (Nat.le_of_ble_eq_true rfl) (Nat.le_of_ble_eq_true rfl) d_As_mask_31 ?_
        refine lv_topi (fun x4 e_x4 => ?_)
        refine lv_istore (lv' := [(7, .int x4), (6, .int y6), (5, .int y5), (0, .ref a), (1, .ref b2), (2, .int (nI f0)), (3, .long i0)]) hx hb d_As_mask_34 hl (by decide) rfl (fun ls hl => ?_)
        obtain ⟨y7, hy7⟩ : ∃ z, z = x4 := ⟨_, rfl⟩
        rw [← hy7] at hl
        refine lv_iload hx hb d_As_mask_36 (lv_at hl 1 rfl) ?_
        refine lv_istore (lv' := [(8, .int y6), (7, .int y7), (6, .int y6), (5, .int y5), (0, .ref a), (1, .ref b2), (2, .int (nI f0)), (3, .long i0)]) hx hb d_As_mask_38 hl (by decide) rfl (fun ls hl => ?_)
        have L_40 : ∀ (n9 : Nat) (y8 : Int32) (H : Heap) (locs : List Loc) (ls : Array Slot), (y7.toInt - y8.toInt).toNat < n9 → gw_I D Hs G s.heap H locs → lv_has ls 11 [(8, .int y8), (7, .int y7), (6, .int y6), (5, .int y5), (0, .ref a), (1, .ref b2), (2, .int (nI f0)), (3, .long i0)] → W p l e rm_As_mask s m args below meth c H locs 0 0 (MQ below (gw_Qv D Hs (fun G1 => G1 = G)) args s 0 0 (gw_A Hs)) (F0 m 40 ls []) := by
          intro n9
          induction n9 with
          | zero =>
            intro y8 H locs ls  hm hI hl
            exact absurd hm (Nat.not_lt_zero _)
          | succ n9 ih_40 =>
            intro y8 H locs ls  hm_40 hI hl
            refine lv_iload hx hb d_As_mask_40 (lv_at hl 0 rfl) ?_
            refine lv_iload hx hb d_As_mask_42 (lv_at hl 1 rfl) ?_
            refine lv_icmp_ge (tgt := 114) hx hb d_As_mask_44 (by decide) (fun c_44 => ?_) (fun c_44 => ?_)
            · obtain ⟨x5, e_x5⟩ : ∃ ww9 : Int32, ww9 = y5 + 1 := ⟨_, rfl⟩
              refine lv_iinc (v := x5) (lv' := [(5, .int x5), (8, .int y8), (7, .int y7), (6, .int y6), (0, .ref a), (1, .ref b2), (2, .int (nI f0)), (3, .long i0)]) hx hb d_As_mask_114 hl (k := 3) rfl (by rw [e_x5]; rfl) (by decide) rfl (fun ls hl => ?_)
              obtain ⟨x6, e_x6⟩ : ∃ ww9 : Int32, ww9 = y6 + 16 := ⟨_, rfl⟩
              refine lv_iinc (v := x6) (lv' := [(6, .int x6), (5, .int x5), (8, .int y8), (7, .int y7), (0, .ref a), (1, .ref b2), (2, .int (nI f0)), (3, .long i0)]) hx hb d_As_mask_117 hl (k := 3) rfl (by rw [e_x6]; rfl) (by decide) rfl (fun ls hl => ?_)
              refine lv_goto (tgt := 6) hx hb d_As_mask_120 (by decide) ?_
              exact ih_6 (k + 16) x6 x5 _ _ _ (Nat.add_le_add_right (Nat.le_of_lt hlt) 16) (by rw [e_x6, hk]; exact nI_add _ _) (mk_m hm_6 hlt) hI (lv_sub hl [0, 1, 4, 5, 6, 7] rfl)
            · refine lv_iload hx hb d_As_mask_47 (lv_at hl 0 rfl) ?_
              refine lv_iload hx hb d_As_mask_49 (lv_at hl 2 rfl) ?_
              refine lv_isub hx hb d_As_mask_51 ?_
              refine lv_bipush (v := 8) hx hb d_As_mask_52 (by decide) ?_
              have J_74 : ∀ (j74 : Int64) (H : Heap) (locs : List Loc) (ls : Array Slot), gw_I D Hs G s.heap H locs → lv_has ls 11 [(8, .int y8), (7, .int y7), (6, .int y6), (5, .int y5), (0, .ref a), (1, .ref b2), (2, .int (nI f0)), (3, .long i0)] → W p l e rm_As_mask s m args below meth c H locs 0 0 (MQ below (gw_Qv D Hs (fun G1 => G1 = G)) args s 0 0 (gw_A Hs)) (F0 m 74 ls [.long j74]) := by
                intro j74 H locs ls  hI hl
                refine lv_lstore (lv' := [(9, .long j74), (8, .int y8), (7, .int y7), (6, .int y6), (5, .int y5), (0, .ref a), (1, .ref b2), (2, .int (nI f0)), (3, .long i0)]) hx hb d_As_mask_74 hl (by decide) rfl (fun ls hl => ?_)
                refine lv_aload_n hx hb d_As_mask_76 rfl (lv_at hl 6 rfl) ?_
                refine lv_iload hx hb d_As_mask_77 (lv_at hl 1 rfl) ?_
                refine lv_aload_n hx hb d_As_mask_79 rfl (lv_at hl 6 rfl) ?_
                refine lv_iload hx hb d_As_mask_80 (lv_at hl 1 rfl) ?_
                refine lv_i2l hx hb d_As_mask_82 rfl ?_
                refine gw_Vi (As := [.long ((y8).toInt64)]) (rest := [.int y8, .ref b2]) M hK hI (c_Ro_at l ((y8).toInt64) b2 q2 n2 (z_31 hn2) hA2 isRw_Ro hQ2) k_Ro_at m_As_117 hA2 (ci := 3) rfl (fun x hx => by obtain ⟨u1, u2, h_u1, h_u2, q9⟩ := hx; exact ⟨_, q9⟩) rfl hl.1 rfl (Nat.le_of_ble_eq_true rfl) ⟨rfl, rfl, ⟨Nat.le_of_ble_eq_true rfl, Nat.le_of_ble_eq_true rfl⟩, ⟨Nat.le_of_ble_eq_true rfl, Nat.le_of_ble_eq_true rfl⟩⟩ d_As_mask_83 (fun x7 G9 H locs hw hI => ?_)
                rw [hw] at hI
                refine lv_lload hx hb d_As_mask_86 (lv_at hl 0 rfl) ?_
                refine lv_bipush (v := 56) hx hb d_As_mask_88 (by decide) ?_
                refine lv_bipush (v := 8) hx hb d_As_mask_90 (by decide) ?_
                refine lv_iload hx hb d_As_mask_92 (lv_at hl 1 rfl) ?_
                refine lv_iload hx hb d_As_mask_94 (lv_at hl 3 rfl) ?_
                refine lv_isub hx hb d_As_mask_96 ?_
                refine lv_bipush (v := 7) hx hb d_As_mask_97 (by decide) ?_
                refine lv_iand hx hb d_As_mask_99 ?_
                refine lv_imul hx hb d_As_mask_100 ?_
                refine lv_isub hx hb d_As_mask_101 ?_
                refine lv_lushr hx hb d_As_mask_102 rfl ?_
                refine lv_l2i hx hb d_As_mask_103 rfl ?_
                refine lv_ixor hx hb d_As_mask_104 ?_
                refine gw_Vv (As := [.int y8, .int (x7 ^^^ (((((j74).toUInt64 >>> ((((56 : Int32) - ((8 : Int32) * ((y8 - y6) &&& (7 : Int32))))).toInt64.toUInt64 &&& Int64.toUInt64 63)).toInt64)).toInt32))]) (rest := []) M hK hI (c_Ro_put l y8 (x7 ^^^ (((((j74).toUInt64 >>> ((((56 : Int32) - ((8 : Int32) * ((y8 - y6) &&& (7 : Int32))))).toInt64.toUInt64 &&& Int64.toUInt64 63)).toInt64)).toInt32)) b2 q2 n2 (z_31 hn2) hA2 hQ2) k_Ro_put m_As_121 hA2 (ci := 3) rfl (fun x hx => by obtain ⟨u1, u2, h_u1, h_u2, q9⟩ := hx; exact ⟨_, q9⟩) rfl hl.1 rfl (Nat.le_of_ble_eq_true rfl) ⟨rfl, rfl, ⟨Nat.le_of_ble_eq_true rfl, Nat.le_of_ble_eq_true rfl⟩, ⟨Nat.le_of_ble_eq_true rfl, Nat.le_of_ble_eq_true rfl⟩⟩ d_As_mask_105 (fun G9 H locs hw hI => ?_)
                rw [hw] at hI
                obtain ⟨x9, e_x9⟩ : ∃ ww9 : Int32, ww9 = y8 + 1 := ⟨_, rfl⟩
                refine lv_iinc (v := x9) (lv' := [(8, .int x9), (9, .long j74), (7, .int y7), (6, .int y6), (5, .int y5), (0, .ref a), (1, .ref b2), (2, .int (nI f0)), (3, .long i0)]) hx hb d_As_mask_108 hl (k := 1) rfl (by rw [e_x9]; rfl) (by decide) rfl (fun ls hl => ?_)
                refine lv_goto (tgt := 40) hx hb d_As_mask_111 (by decide) ?_
                exact ih_40 x9 _ _ _  (ml_s c_44 e_x9 hm_40) hI (lv_sub hl [0, 2, 3, 4, 5, 6, 7, 8] rfl)
              refine lv_icmp_ge (tgt := 67) hx hb d_As_mask_54 (by decide) (fun c_54 => ?_) (fun c_54 => ?_)
              · refine lv_aload_n hx hb d_As_mask_67 rfl (lv_at hl 4 rfl) ?_
                refine gw_get M hK hI hA i_As rfl 0 (by decide) f_As_10 rfl (Pv := fun v => v = .ref ci) (fun x hx => by obtain ⟨u3, u5, u6, u9, v1, v2, q9⟩ := hx; exact ⟨_, _, q9, rfl, rfl⟩) d_As_mask_68 (fun v hv => ?_)
                subst hv
                refine gw_get M hK hI hC i_Ci rfl 2 (by decide) f_As_72 rfl (Pv := fun v => ∃ x9 : Int64, v = .long x9) (fun x hx => by obtain ⟨u1, u2, q9⟩ := hx; exact ⟨_, _, q9, rfl, _, rfl⟩) d_As_mask_71 (fun v hv => ?_)
                obtain ⟨x10, rfl⟩ := hv
                exact J_74 x10 _ _ _  hI (lv_sub hl [0, 1, 2, 3, 4, 5, 6, 7] rfl)
              · refine lv_aload_n hx hb d_As_mask_57 rfl (lv_at hl 4 rfl) ?_
                refine gw_get M hK hI hA i_As rfl 0 (by decide) f_As_10 rfl (Pv := fun v => v = .ref ci) (fun x hx => by obtain ⟨u3, u5, u6, u9, v1, v2, q9⟩ := hx; exact ⟨_, _, q9, rfl, rfl⟩) d_As_mask_58 (fun v hv => ?_)
                subst hv
                refine gw_get M hK hI hC i_Ci rfl 1 (by decide) f_As_69 rfl (Pv := fun v => ∃ x9 : Int64, v = .long x9) (fun x hx => by obtain ⟨u1, u2, q9⟩ := hx; exact ⟨_, _, q9, rfl, _, rfl⟩) d_As_mask_61 (fun v hv => ?_)
                obtain ⟨x11, rfl⟩ := hv
                refine lv_goto (tgt := 74) hx hb d_As_mask_64 (by decide) ?_
                exact J_74 x11 _ _ _  hI (lv_sub hl [0, 1, 2, 3, 4, 5, 6, 7] rfl)
        exact L_40 _ y6 _ _ _  (Nat.lt_succ_self _) hI (lv_sub hl [0, 1, 2, 3, 4, 5, 6, 7] rfl)
  exact L_6 _ f0 (nI f0) 2 _ _ _ (Nat.le_trans hf0 (Nat.le_add_left _ _)) rfl (Nat.lt_succ_self _) hI (lv_sub hl [0, 1, 2, 3, 4, 5] rfl)

theorem ob_1 {k : Nat} {y : Int32} (hk : y = nI k) (h : k < 400) : y.toInt + (8 : Int32).toInt < 2 ^ 31 ∧ 0 ≤ (8 : Int32).toInt ∧ -2 ^ 31 ≤ y.toInt := by
  rw [hk, nI_toInt (by omega)]
  have e8 : (8 : Int32).toInt = 8 := rfl
  omega
theorem ob_2 {k : Nat} {y : Int32} (hk : y = nI k) (h : k < 400) : (y + 8).toInt + (8 : Int32).toInt < 2 ^ 31 ∧ 0 ≤ (8 : Int32).toInt ∧ -2 ^ 31 ≤ (y + 8).toInt := by
  have h9 : y + 8 = nI (k + 8) := by rw [hk]; exact nI_add k 8
  rw [h9, nI_toInt (by omega)]
  have e8 : (8 : Int32).toInt = 8 := rfl
  omega
theorem ob_3 {k : Nat} {y n0 z : Int32} (hn0 : -100 ≤ n0.toInt ∧ n0.toInt ≤ 300) (hk : y = nI k) (hk4 : k < 400) (hz : z = 16 + n0) (c : ¬ z ≤ y) : k < 320 := by
  rw [hz, Int32.le_iff_toInt_le, hk, nI_toInt (by omega)] at c
  have e16 : (16 : Int32).toInt = 16 := rfl
  have h9 : ((16 : Int32) + n0).toInt = 16 + n0.toInt := by
    have := ti_add (x := 16) (y := n0) (by omega) (by omega)
    omega
  omega
theorem ob_m {k m : Nat} (hm : 500 - k < m + 1) (h : k < 320) : 500 - (k + 16) < m := by omega

abbrev rm_Ch_ofBody : Room := { frames := 2, cells := 0, slots := 0, locals := 48 }
set_option maxHeartbeats 4000000 in
set_option maxRecDepth 100000 in
theorem c_Ch_ofBody (l : Launch) {D : gw_D} {Hs : Heap} {G : gw_G} (e2 : Nat) (i0 : Int64) (n0 : Int32) (hn0 : -100 ≤ n0.toInt ∧ n0.toInt ≤ 300) (hE : G e2 = some kCh) (b2 q2 n2 : Nat) (hn2 : n2 ≤ 1000) {K2 : va_E → Prop} (hA2 : G b2 = some K2) (hR2 : isRw K2 q2 n2) (hQ2 : G q2 = some (kA D 1 n2 tT)) (a ci wi : Nat) (tt xt : Int32) (la : Int64) (li : Int32) (hA : G a = some (kAp ci wi tt xt la li)) : Met l y_Ch_ofBody (Cond.code y_Ch_ofBody b_Ch_ofBody 10 none :: tb) rm_Ch_ofBody (gw_Pc D Hs G [.ref e2, .ref a, .long i0, .ref b2, .int n0]) (gw_Qv D Hs (fun G1 => G1 = G)) 0 0 (gw_A Hs) := by
  refine gw_met (by decide) (Nat.le_of_ble_eq_true rfl) ?_
  intro p e s m args below meth c M hK hr hlo hin hI ls hl
  have hx := M.1
  have hb := M.2.1
  have hl : lv_has ls 10 [(0, .ref e2), (1, .ref a), (2, .long i0), (4, .ref b2), (5, .int n0)] := hl
  refine lv_aload_n hx hb d_Ch_ofBody_0 rfl (lv_at hl 0 rfl) ?_
  refine lv_lconst (v := 0) hx hb d_Ch_ofBody_1 (by decide) ?_
  refine gw_put M hK hI hE i_Ch t_Ch tk_Ch n_Ch rfl 0 (by decide) f_Ch_9 rfl rfl rfl kCh (fun x hx => by obtain ⟨u1, u2, q9⟩ := hx; exact ⟨_, q9, Nat.le_of_ble_eq_true rfl, ⟨_, u2, rfl⟩⟩) d_Ch_ofBody_2 (fun H locs hI => ?_)
  rw [gw_up_id hE] at hI
  refine lv_aload_n hx hb d_Ch_ofBody_5 rfl (lv_at hl 0 rfl) ?_
  refine lv_lconst (v := 0) hx hb d_Ch_ofBody_6 (by decide) ?_
  refine gw_put M hK hI hE i_Ch t_Ch tk_Ch n_Ch rfl 1 (by decide) f_Ch_15 rfl rfl rfl kCh (fun x hx => by obtain ⟨u1, u2, q9⟩ := hx; exact ⟨_, q9, Nat.le_of_ble_eq_true rfl, ⟨u1, _, rfl⟩⟩) d_Ch_ofBody_7 (fun H locs hI => ?_)
  rw [gw_up_id hE] at hI
  refine lv_aload_n hx hb d_Ch_ofBody_10 rfl (lv_at hl 1 rfl) ?_
  refine gw_get M hK hI hA i_As rfl 2 (by decide) f_Ch_18 rfl (Pv := fun v => v = .int tt) (fun x hx => by obtain ⟨u3, u5, u6, u9, v1, v2, q9⟩ := hx; exact ⟨_, _, q9, rfl, rfl⟩) d_Ch_ofBody_11 (fun v hv => ?_)
  subst hv
  refine lv_i2l hx hb d_Ch_ofBody_14 rfl ?_
  refine lv_bipush (v := 32) hx hb d_Ch_ofBody_15 (by decide) ?_
  refine lv_lshl hx hb d_Ch_ofBody_17 rfl ?_
  refine lv_topl (fun x1 e_x1 => ?_)
  refine lv_lstore (lv' := [(6, .long x1), (0, .ref e2), (1, .ref a), (2, .long i0), (4, .ref b2), (5, .int n0)]) hx hb d_Ch_ofBody_18 hl (by decide) rfl (fun ls hl => ?_)
  refine lv_aload_n hx hb d_Ch_ofBody_20 rfl (lv_at hl 2 rfl) ?_
  refine gw_get M hK hI hA i_As rfl 4 (by decide) f_Ch_24 rfl (Pv := fun v => v = .int xt) (fun x hx => by obtain ⟨u3, u5, u6, u9, v1, v2, q9⟩ := hx; exact ⟨_, _, q9, rfl, rfl⟩) d_Ch_ofBody_21 (fun v hv => ?_)
  subst hv
  have J_60 : ∀  (H : Heap) (locs : List Loc) (ls : Array Slot), gw_I D Hs G s.heap H locs → lv_has ls 10 [(6, .long x1), (0, .ref e2), (1, .ref a), (2, .long i0), (4, .ref b2), (5, .int n0)] → W p l e rm_Ch_ofBody s m args below meth c H locs 0 0 (MQ below (gw_Qv D Hs (fun G1 => G1 = G)) args s 0 0 (gw_A Hs)) (F0 m 60 ls []) := by
    intro  H locs ls  hI hl
    refine lv_bipush (v := 16) hx hb d_Ch_ofBody_60 (by decide) ?_
    refine lv_iload hx hb d_Ch_ofBody_62 (lv_at hl 5 rfl) ?_
    refine lv_iadd hx hb d_Ch_ofBody_64 ?_
    refine lv_topi (fun x2 e_x2 => ?_)
    refine lv_istore (lv' := [(8, .int x2), (6, .long x1), (0, .ref e2), (1, .ref a), (2, .long i0), (4, .ref b2), (5, .int n0)]) hx hb d_Ch_ofBody_65 hl (by decide) rfl (fun ls hl => ?_)
    obtain ⟨y8, hy8⟩ : ∃ z, z = x2 := ⟨_, rfl⟩
    rw [← hy8] at hl
    rw [e_x2] at hy8
    refine lv_bipush (v := 16) hx hb d_Ch_ofBody_67 (by decide) ?_
    refine lv_istore (lv' := [(9, .int 16), (8, .int y8), (6, .long x1), (0, .ref e2), (1, .ref a), (2, .long i0), (4, .ref b2), (5, .int n0)]) hx hb d_Ch_ofBody_69 hl (by decide) rfl (fun ls hl => ?_)
    have L_71 : ∀ (n9 : Nat) (k : Nat) (y9 : Int32) (H : Heap) (locs : List Loc) (ls : Array Slot), k < 400 → y9 = nI k → 500 - k < n9 → gw_I D Hs G s.heap H locs → lv_has ls 10 [(9, .int y9), (8, .int y8), (0, .ref e2), (1, .ref a), (2, .long i0), (4, .ref b2), (5, .int n0)] → W p l e rm_Ch_ofBody s m args below meth c H locs 0 0 (MQ below (gw_Qv D Hs (fun G1 => G1 = G)) args s 0 0 (gw_A Hs)) (F0 m 71 ls []) := by
      intro n9
      induction n9 with
      | zero =>
        intro k y9 H locs ls hlt hk hm hI hl
        exact absurd hm (Nat.not_lt_zero _)
      | succ n9 ih_71 =>
        intro k y9 H locs ls hlt hk hm_71 hI hl
        refine lv_iload hx hb d_Ch_ofBody_71 (lv_at hl 0 rfl) ?_
        refine lv_iload hx hb d_Ch_ofBody_73 (lv_at hl 1 rfl) ?_
        refine lv_icmp_ge (tgt := 114) hx hb d_Ch_ofBody_75 (by decide) (fun c_75 => ?_) (fun c_75 => ?_)
        · refine lv_aload_n hx hb d_Ch_ofBody_114 rfl (lv_at hl 2 rfl) ?_
          refine lv_aload_n hx hb d_Ch_ofBody_115 rfl (lv_at hl 3 rfl) ?_
          refine lv_bipush (v := 8) hx hb d_Ch_ofBody_116 (by decide) ?_
          refine lv_aload_n hx hb d_Ch_ofBody_118 rfl (lv_at hl 3 rfl) ?_
          refine gw_get M hK hI hA i_As rfl 4 (by decide) f_Ch_24 rfl (Pv := fun v => v = .int xt) (fun x hx => by obtain ⟨u3, u5, u6, u9, v1, v2, q9⟩ := hx; exact ⟨_, _, q9, rfl, rfl⟩) d_Ch_ofBody_119 (fun v hv => ?_)
          subst hv
          have J_132 : ∀ (j132 : Int32) (H : Heap) (locs : List Loc) (ls : Array Slot), gw_I D Hs G s.heap H locs → lv_has ls 10 [(9, .int y9), (8, .int y8), (0, .ref e2), (1, .ref a), (2, .long i0), (4, .ref b2), (5, .int n0)] → W p l e rm_Ch_ofBody s m args below meth c H locs 0 0 (MQ below (gw_Qv D Hs (fun G1 => G1 = G)) args s 0 0 (gw_A Hs)) (F0 m 132 ls [.int j132, .int 8, .ref a, .ref e2]) := by
            intro j132 H locs ls  hI hl
            refine lv_imul hx hb d_Ch_ofBody_132 ?_
            refine lv_i2l hx hb d_Ch_ofBody_133 rfl ?_
            refine lv_ldc2 (v := 8) hx hb M.2.2.2.1 (M.2.2.2.2 _ o_Ch_40) d_Ch_ofBody_134 ?_
            refine lv_iload hx hb d_Ch_ofBody_137 (lv_at hl 6 rfl) ?_
            refine lv_i2l hx hb d_Ch_ofBody_139 rfl ?_
            refine lv_lmul hx hb d_Ch_ofBody_140 ?_
            refine gw_Vv (As := [.ref a, .long ((((8 : Int32) * j132)).toInt64), .long ((8 : Int64) * ((n0).toInt64))]) (rest := []) M hK hI (c_Ch_take l e2 ((((8 : Int32) * j132)).toInt64) ((8 : Int64) * ((n0).toInt64)) hE a ci wi tt xt la li hA) k_Ch_take m_Ch_28 hE (ci := 1) rfl (fun x hx => by obtain ⟨u1, u2, q9⟩ := hx; exact ⟨_, q9⟩) rfl hl.1 rfl (Nat.le_of_ble_eq_true rfl) ⟨rfl, rfl, ⟨Nat.le_of_ble_eq_true rfl, Nat.le_of_ble_eq_true rfl⟩, ⟨Nat.le_of_ble_eq_true rfl, Nat.le_of_ble_eq_true rfl⟩⟩ d_Ch_ofBody_141 (fun G9 H locs hw hI => ?_)
            rw [hw] at hI
            exact gw_vret M hr hlo hI d_Ch_ofBody_144 rfl
          refine lv_if_eq (tgt := 130) hx hb d_Ch_ofBody_122 (by decide) (fun c_122 => ?_) (fun c_122 => ?_)
          · refine lv_bipush (v := 8) hx hb d_Ch_ofBody_130 (by decide) ?_
            exact J_132 8 _ _ _  hI (lv_sub hl [0, 1, 2, 3, 4, 5, 6] rfl)
          · refine lv_bipush (v := 12) hx hb d_Ch_ofBody_125 (by decide) ?_
            refine lv_goto (tgt := 132) hx hb d_Ch_ofBody_127 (by decide) ?_
            exact J_132 12 _ _ _  hI (lv_sub hl [0, 1, 2, 3, 4, 5, 6] rfl)
        · have hlt2 : k < 320 := ob_3 hn0 hk hlt hy8 c_75
          refine lv_aload_n hx hb d_Ch_ofBody_78 rfl (lv_at hl 2 rfl) ?_
          refine lv_aload_n hx hb d_Ch_ofBody_79 rfl (lv_at hl 3 rfl) ?_
          refine lv_aload hx hb d_Ch_ofBody_80 (lv_at hl 5 rfl) ?_
          refine lv_iload hx hb d_Ch_ofBody_82 (lv_at hl 0 rfl) ?_
          refine lv_bipush (v := 8) hx hb d_Ch_ofBody_84 (by decide) ?_
          refine lv_iload hx hb d_Ch_ofBody_86 (lv_at hl 1 rfl) ?_
          refine gw_Vl (As := [.int y9, .int 8, .int y8]) (rest := [.ref a, .ref e2]) M hK hI (c_Ro_numberUpTo l y9 (8 : Int32) y8 (ob_1 hk hlt) b2 q2 n2 (z_31 hn2) hA2 hR2 hQ2) k_Ro_numberUpTo m_Ch_34 hA2 (ci := 3) rfl (fun x hx => by obtain ⟨k9, t9, h9, q9⟩ := hR2 x hx; exact ⟨_, q9⟩) rfl hl.1 rfl (Nat.le_of_ble_eq_true rfl) ⟨rfl, rfl, ⟨Nat.le_of_ble_eq_true rfl, Nat.le_of_ble_eq_true rfl⟩, ⟨Nat.le_of_ble_eq_true rfl, Nat.le_of_ble_eq_true rfl⟩⟩ d_Ch_ofBody_88 (fun x4 G9 H locs hw hI => ?_)
          rw [hw] at hI
          refine lv_aload hx hb d_Ch_ofBody_91 (lv_at hl 5 rfl) ?_
          refine lv_iload hx hb d_Ch_ofBody_93 (lv_at hl 0 rfl) ?_
          refine lv_bipush (v := 8) hx hb d_Ch_ofBody_95 (by decide) ?_
          refine lv_iadd hx hb d_Ch_ofBody_97 ?_
          refine lv_bipush (v := 8) hx hb d_Ch_ofBody_98 (by decide) ?_
          refine lv_iload hx hb d_Ch_ofBody_100 (lv_at hl 1 rfl) ?_
          refine gw_Vl (As := [.int (y9 + (8 : Int32)), .int 8, .int y8]) (rest := [.long x4, .ref a, .ref e2]) M hK hI (c_Ro_numberUpTo l (y9 + (8 : Int32)) (8 : Int32) y8 (ob_2 hk hlt) b2 q2 n2 (z_31 hn2) hA2 hR2 hQ2) k_Ro_numberUpTo m_Ch_34 hA2 (ci := 3) rfl (fun x hx => by obtain ⟨k9, t9, h9, q9⟩ := hR2 x hx; exact ⟨_, q9⟩) rfl hl.1 rfl (Nat.le_of_ble_eq_true rfl) ⟨rfl, rfl, ⟨Nat.le_of_ble_eq_true rfl, Nat.le_of_ble_eq_true rfl⟩, ⟨Nat.le_of_ble_eq_true rfl, Nat.le_of_ble_eq_true rfl⟩⟩ d_Ch_ofBody_102 (fun x5 G9 H locs hw hI => ?_)
          rw [hw] at hI
          refine gw_Vv (As := [.ref a, .long x4, .long x5]) (rest := []) M hK hI (c_Ch_take l e2 x4 x5 hE a ci wi tt xt la li hA) k_Ch_take m_Ch_28 hE (ci := 1) rfl (fun x hx => by obtain ⟨u1, u2, q9⟩ := hx; exact ⟨_, q9⟩) rfl hl.1 rfl (Nat.le_of_ble_eq_true rfl) ⟨rfl, rfl, ⟨Nat.le_of_ble_eq_true rfl, Nat.le_of_ble_eq_true rfl⟩, ⟨Nat.le_of_ble_eq_true rfl, Nat.le_of_ble_eq_true rfl⟩⟩ d_Ch_ofBody_105 (fun G9 H locs hw hI => ?_)
          rw [hw] at hI
          obtain ⟨x7, e_x7⟩ : ∃ ww9 : Int32, ww9 = y9 + 16 := ⟨_, rfl⟩
          refine lv_iinc (v := x7) (lv' := [(9, .int x7), (8, .int y8), (0, .ref e2), (1, .ref a), (2, .long i0), (4, .ref b2), (5, .int n0)]) hx hb d_Ch_ofBody_108 hl (k := 0) rfl (by rw [e_x7]; rfl) (by decide) rfl (fun ls hl => ?_)
          refine lv_goto (tgt := 71) hx hb d_Ch_ofBody_111 (by decide) ?_
          exact ih_71 (k + 16) x7 _ _ _ (by omega) (by rw [e_x7, hk]; exact nI_add _ _) (ob_m hm_71 hlt2) hI (lv_sub hl [0, 1, 2, 3, 4, 5, 6] rfl)
    exact L_71 _ 16 16 _ _ _ (by decide) rfl (Nat.lt_succ_self _) hI (lv_sub hl [0, 1, 3, 4, 5, 6, 7] rfl)
  refine lv_if_eq (tgt := 46) hx hb d_Ch_ofBody_24 (by decide) (fun c_24 => ?_) (fun c_24 => ?_)
  · refine lv_aload_n hx hb d_Ch_ofBody_46 rfl (lv_at hl 1 rfl) ?_
    refine lv_aload_n hx hb d_Ch_ofBody_47 rfl (lv_at hl 2 rfl) ?_
    refine lv_lload hx hb d_Ch_ofBody_48 (lv_at hl 0 rfl) ?_
    refine lv_lload_n hx hb d_Ch_ofBody_50 rfl (lv_at hl 3 rfl) ?_
    refine lv_ldc2 (v := 4294967295) hx hb M.2.2.2.1 (M.2.2.2.2 _ o_Ch_32) d_Ch_ofBody_51 ?_
    refine lv_land hx hb d_Ch_ofBody_54 ?_
    refine lv_lor hx hb d_Ch_ofBody_55 ?_
    refine lv_lconst (v := 0) hx hb d_Ch_ofBody_56 (by decide) ?_
    refine gw_Vv (As := [.ref a, .long (x1 ||| (i0 &&& (4294967295 : Int64))), .long 0]) (rest := []) M hK hI (c_Ch_take l e2 (x1 ||| (i0 &&& (4294967295 : Int64))) 0 hE a ci wi tt xt la li hA) k_Ch_take m_Ch_28 hE (ci := 1) rfl (fun x hx => by obtain ⟨u1, u2, q9⟩ := hx; exact ⟨_, q9⟩) rfl hl.1 rfl (Nat.le_of_ble_eq_true rfl) ⟨rfl, rfl, ⟨Nat.le_of_ble_eq_true rfl, Nat.le_of_ble_eq_true rfl⟩, ⟨Nat.le_of_ble_eq_true rfl, Nat.le_of_ble_eq_true rfl⟩⟩ d_Ch_ofBody_57 (fun G9 H locs hw hI => ?_)
    rw [hw] at hI
    exact J_60  _ _ _  hI (lv_sub hl [0, 1, 2, 3, 4, 5] rfl)
  · refine lv_aload_n hx hb d_Ch_ofBody_27 rfl (lv_at hl 1 rfl) ?_
    refine lv_aload_n hx hb d_Ch_ofBody_28 rfl (lv_at hl 2 rfl) ?_
    refine lv_lload hx hb d_Ch_ofBody_29 (lv_at hl 0 rfl) ?_
    refine lv_lload_n hx hb d_Ch_ofBody_31 rfl (lv_at hl 3 rfl) ?_
    refine lv_bipush (v := 32) hx hb d_Ch_ofBody_32 (by decide) ?_
    refine lv_lushr hx hb d_Ch_ofBody_34 rfl ?_
    refine lv_lor hx hb d_Ch_ofBody_35 ?_
    refine lv_lload_n hx hb d_Ch_ofBody_36 rfl (lv_at hl 3 rfl) ?_
    refine lv_bipush (v := 32) hx hb d_Ch_ofBody_37 (by decide) ?_
    refine lv_lshl hx hb d_Ch_ofBody_39 rfl ?_
    refine gw_Vv (As := [.ref a, .long (x1 ||| (((i0).toUInt64 >>> (((32 : Int32)).toInt64.toUInt64 &&& Int64.toUInt64 63)).toInt64)), .long (i0 <<< (((32 : Int32)).toInt64 &&& 63))]) (rest := []) M hK hI (c_Ch_take l e2 (x1 ||| (((i0).toUInt64 >>> (((32 : Int32)).toInt64.toUInt64 &&& Int64.toUInt64 63)).toInt64)) (i0 <<< (((32 : Int32)).toInt64 &&& 63)) hE a ci wi tt xt la li hA) k_Ch_take m_Ch_28 hE (ci := 1) rfl (fun x hx => by obtain ⟨u1, u2, q9⟩ := hx; exact ⟨_, q9⟩) rfl hl.1 rfl (Nat.le_of_ble_eq_true rfl) ⟨rfl, rfl, ⟨Nat.le_of_ble_eq_true rfl, Nat.le_of_ble_eq_true rfl⟩, ⟨Nat.le_of_ble_eq_true rfl, Nat.le_of_ble_eq_true rfl⟩⟩ d_Ch_ofBody_40 (fun G9 H locs hw hI => ?_)
    rw [hw] at hI
    refine lv_goto (tgt := 60) hx hb d_Ch_ofBody_43 (by decide) ?_
    exact J_60  _ _ _  hI (lv_sub hl [0, 1, 2, 3, 4, 5] rfl)
