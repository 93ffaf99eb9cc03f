theorem k_La_add : gk_W y_La_add b_La_add 11 (some .int) [(0, 26, 29, 13)] 8 := ⟨tb_2 121 rfl rfl, tb_1 0 rfl rfl, tb_2 122 rfl rfl, ⟨by decide +kernel, by decide +kernel⟩, by decide +kernel⟩
theorem k_La_hurry : gk_W y_La_hurry b_La_hurry 5 (some .int) [(0, 6, 9, 19), (0, 6, 13, 13)] 3 := ⟨tb_2 212 rfl rfl, tb_1 0 rfl rfl, tb_2 213 rfl rfl, ⟨by decide +kernel, by decide +kernel⟩, by decide +kernel⟩
theorem k_La_life : gk_W y_La_life b_La_life 5 (some .int) [(0, 10, 13, 19), (0, 10, 17, 13)] 4 := ⟨tb_3 0 rfl rfl, tb_1 0 rfl rfl, tb_3 1 rfl rfl, ⟨by decide +kernel, by decide +kernel⟩, by decide +kernel⟩
theorem k_La_feed : gk_W y_La_feed b_La_feed 6 (some .int) [(0, 11, 14, 13)] 4 := ⟨tb_3 7 rfl rfl, tb_1 0 rfl rfl, tb_3 8 rfl rfl, ⟨by decide +kernel, by decide +kernel⟩, by decide +kernel⟩
theorem k_La_seal : gk_W y_La_seal b_La_seal 5 (some .int) [(0, 10, 13, 19), (0, 10, 17, 13)] 4 := ⟨tb_3 15 rfl rfl, tb_1 0 rfl rfl, tb_3 16 rfl rfl, ⟨by decide +kernel, by decide +kernel⟩, by decide +kernel⟩
theorem k_La_spoil : gk_W y_La_spoil b_La_spoil 5 (some .int) [(0, 10, 13, 35), (0, 10, 17, 13)] 4 := ⟨tb_3 33 rfl rfl, tb_1 0 rfl rfl, tb_3 34 rfl rfl, ⟨by decide +kernel, by decide +kernel⟩, by decide +kernel⟩
theorem k_La_cut : gk_W y_La_cut b_La_cut 3 (some .int) [(0, 5, 8, 13)] 2 := ⟨tb_3 57 rfl rfl, tb_1 0 rfl rfl, tb_3 58 rfl rfl, ⟨by decide +kernel, by decide +kernel⟩, by decide +kernel⟩
theorem k_La_keep : gk_W y_La_keep b_La_keep 3 (some .int) [(0, 5, 8, 35)] 2 := ⟨tb_3 64 rfl rfl, tb_1 0 rfl rfl, tb_3 65 rfl rfl, ⟨by decide +kernel, by decide +kernel⟩, by decide +kernel⟩
theorem k_La_bring : gk_W y_La_bring b_La_bring 4 (some .int) [(0, 9, 12, 35)] 3 := ⟨tb_3 79 rfl rfl, tb_1 0 rfl rfl, tb_3 80 rfl rfl, ⟨by decide +kernel, by decide +kernel⟩, by decide +kernel⟩
theorem k_La_told : gk_W y_La_told b_La_told 5 (some .int) [(0, 9, 12, 19), (0, 9, 16, 13)] 4 := ⟨tb_3 86 rfl rfl, tb_1 0 rfl rfl, tb_3 87 rfl rfl, ⟨by decide +kernel, by decide +kernel⟩, by decide +kernel⟩
theorem k_La_given : gk_W y_La_given b_La_given 5 (some .int) [(0, 9, 12, 19), (0, 9, 16, 13)] 4 := ⟨tb_3 93 rfl rfl, tb_1 0 rfl rfl, tb_3 94 rfl rfl, ⟨by decide +kernel, by decide +kernel⟩, by decide +kernel⟩
abbrev rm_La_addt : Room := { frames := 7, cells := 1, slots := 6, locals := 131 }
set_option maxHeartbeats 4000000 in
set_option maxRecDepth 100000 in
theorem c_La_addt (l : Launch) (htr : l.stackTraces = false) {D : gw_D} {Hs : Heap} {G : gw_G} (n1 : Int32) (kh kl : Int64) (n6 n7 n8 : Int32) (ou : Nat) (hbad : n1 < 256 ∨ ¬ okW n7) (o arr fed sent places plain gained check : Nat) (hO : G o = some (kx (.inr (5, [.ref arr, .int 0, .ref fed, .ref sent, .ref places, .ref plain, .ref gained, .ref check])))) : Met l y_La_add (Cond.codeWith y_La_add b_La_add 11 (some .int) [(0, 26, 29, 13)] :: tb) rm_La_addt (gw_Pc D Hs G [.ref o, .int n1, .long kh, .long kl, .int n6, .int n7, .int n8, .ref ou]) (gw_Qi D Hs (fun r G1 => r = 1 ∧ G1 = G)) 1 6 (gw_A Hs) := by
  refine gw_metW (by decide) (Nat.le_of_ble_eq_true rfl) ?_
  intro p e s m args below meth c M hK hr hlo htab hI ls hl
  have hx := M.1
  have hb := M.2.1
  have hl : lv_has ls 11 [(0, .ref o), (1, .int n1), (2, .long kh), (4, .long kl), (6, .int n6), (7, .int n7), (8, .int n8), (9, .ref ou)] := hl
  refine lv_aload hx hb d_La_add_0 (lv_at hl 7 rfl) ?_
  refine lv_iconst (v := 0) hx hb d_La_add_2 (by decide) ?_
  refine lv_aload_n hx hb d_La_add_3 rfl (lv_at hl 0 rfl) ?_
  refine lv_iload_n hx hb d_La_add_4 rfl (lv_at hl 1 rfl) ?_
  refine lv_lload_n hx hb d_La_add_5 rfl (lv_at hl 2 rfl) ?_
  refine lv_lload hx hb d_La_add_6 (lv_at hl 3 rfl) ?_
  refine lv_iload hx hb d_La_add_8 (lv_at hl 4 rfl) ?_
  refine lv_iload hx hb d_La_add_10 (lv_at hl 5 rfl) ?_
  refine lv_iload hx hb d_La_add_12 (lv_at hl 6 rfl) ?_
  refine xt_try (As := [.int n1, .long kh, .long kl, .int n6, .int n7, .int n8]) (rest := [.int 0, .ref ou]) M hK hI (c_Gp_addx l htr n1 kh kl n6 n7 n8 hbad o arr fed sent places plain gained check hO) (k_Gp_add : gk_V _ _ _ _ _) m_La_7 hO (ci := 5) rfl (fun x hx => ⟨_, hx⟩) rfl hl.1 rfl (Nat.le_of_ble_eq_true rfl) ⟨rfl, rfl, ⟨Nat.le_of_ble_eq_true rfl, Nat.le_of_ble_eq_true rfl⟩, ⟨Nat.le_of_ble_eq_true rfl, Nat.le_of_ble_eq_true rfl⟩⟩ d_La_add_14 (x := ⟨0, 26, 29, 13⟩) htab (by decide) (by decide) q_La_13 (by obtain ⟨-, -, -, -, -, -, -, t9, f9, -, -, -, -, -, k1, k2, k3, -⟩ := hK; exact k1) (fun q9 H locs hI => ?_)
  refine lv_astore (lv' := [(10, .ref q9), (0, .ref o), (1, .int n1), (2, .long kh), (4, .long kl), (6, .int n6), (7, .int n7), (8, .int n8), (9, .ref ou)]) hx hb d_La_add_29 hl (by decide) rfl (fun ls hl => ?_)
  refine lv_iconst (v := 1) hx hb d_La_add_31 (by decide) ?_
  exact gw_iret M hr hlo hI d_La_add_32 (⟨rfl, rfl⟩)

abbrev rm_La_hurryt : Room := { frames := 8, cells := 1, slots := 6, locals := 146 }
set_option maxHeartbeats 4000000 in
set_option maxRecDepth 100000 in
theorem c_La_hurryt (l : Launch) (htr : l.stackTraces = false) {D : gw_D} {Hs : Heap} {G : gw_G} (n1 : Int32) (n2 : Int64) (o arr fed sent places plain gained check : Nat) (hO : G o = some (kx (.inr (5, [.ref arr, .int 0, .ref fed, .ref sent, .ref places, .ref plain, .ref gained, .ref check])))) : Met l y_La_hurry (Cond.codeWith y_La_hurry b_La_hurry 5 (some .int) [(0, 6, 9, 19), (0, 6, 13, 13)] :: tb) rm_La_hurryt (gw_Pc D Hs G [.ref o, .int n1, .long n2]) (gw_Qi D Hs (fun r G1 => r = 1 ∧ G1 = G)) 1 6 (gw_A Hs) := by
  refine gw_metW (by decide) (Nat.le_of_ble_eq_true rfl) ?_
  intro p e s m args below meth c M hK hr hlo htab hI ls hl
  have hx := M.1
  have hb := M.2.1
  have hl : lv_has ls 5 [(0, .ref o), (1, .int n1), (2, .long n2)] := hl
  refine lv_aload_n hx hb d_La_hurry_0 rfl (lv_at hl 0 rfl) ?_
  refine lv_iload_n hx hb d_La_hurry_1 rfl (lv_at hl 1 rfl) ?_
  refine lv_lload_n hx hb d_La_hurry_2 rfl (lv_at hl 2 rfl) ?_
  refine xt_try (As := [.int n1, .long n2]) (rest := []) M hK hI (c_Gp_hurryx l htr n1 n2 o arr fed sent places plain gained check hO) (k_Gp_hurry : gk_V _ _ _ _ _) m_La_15 hO (ci := 5) rfl (fun x hx => ⟨_, hx⟩) rfl hl.1 rfl (Nat.le_of_ble_eq_true rfl) ⟨rfl, rfl, ⟨Nat.le_of_ble_eq_true rfl, Nat.le_of_ble_eq_true rfl⟩, ⟨Nat.le_of_ble_eq_true rfl, Nat.le_of_ble_eq_true rfl⟩⟩ d_La_hurry_3 (x := ⟨0, 6, 9, 19⟩) htab (by decide) (by decide) q_La_19 (by obtain ⟨-, -, -, -, -, -, -, t9, f9, -, -, -, -, -, k1, k2, k3, -⟩ := hK; exact k2) (fun q9 H locs hI => ?_)
  refine lv_astore (lv' := [(4, .ref q9), (0, .ref o), (1, .int n1), (2, .long n2)]) hx hb d_La_hurry_9 hl (by decide) rfl (fun ls hl => ?_)
  refine lv_iconst (v := 1) hx hb d_La_hurry_11 (by decide) ?_
  exact gw_iret M hr hlo hI d_La_hurry_12 (⟨rfl, rfl⟩)

abbrev rm_La_lifet : Room := { frames := 8, cells := 1, slots := 6, locals := 146 }
set_option maxHeartbeats 4000000 in
set_option maxRecDepth 100000 in
theorem c_La_lifet (l : Launch) (htr : l.stackTraces = false) {D : gw_D} {Hs : Heap} {G : gw_G} (n1 n2 : Int32) (ou : Nat) (o arr fed sent places plain gained check : Nat) (hO : G o = some (kx (.inr (5, [.ref arr, .int 0, .ref fed, .ref sent, .ref places, .ref plain, .ref gained, .ref check])))) : Met l y_La_life (Cond.codeWith y_La_life b_La_life 5 (some .int) [(0, 10, 13, 19), (0, 10, 17, 13)] :: tb) rm_La_lifet (gw_Pc D Hs G [.ref o, .int n1, .int n2, .ref ou]) (gw_Qi D Hs (fun r G1 => r = 1 ∧ G1 = G)) 1 6 (gw_A Hs) := by
  refine gw_metW (by decide) (Nat.le_of_ble_eq_true rfl) ?_
  intro p e s m args below meth c M hK hr hlo htab hI ls hl
  have hx := M.1
  have hb := M.2.1
  have hl : lv_has ls 5 [(0, .ref o), (1, .int n1), (2, .int n2), (3, .ref ou)] := hl
  refine lv_aload_n hx hb d_La_life_0 rfl (lv_at hl 3 rfl) ?_
  refine lv_iconst (v := 0) hx hb d_La_life_1 (by decide) ?_
  refine lv_aload_n hx hb d_La_life_2 rfl (lv_at hl 0 rfl) ?_
  refine lv_iload_n hx hb d_La_life_3 rfl (lv_at hl 1 rfl) ?_
  refine lv_iload_n hx hb d_La_life_4 rfl (lv_at hl 2 rfl) ?_
  refine xt_try (As := [.int n1, .int n2]) (rest := [.int 0, .ref ou]) M hK hI (c_Gp_lifex l htr n1 n2 o arr fed sent places plain gained check hO) (k_Gp_life : gk_V _ _ _ _ _) m_La_21 hO (ci := 5) rfl (fun x hx => ⟨_, hx⟩) rfl hl.1 rfl (Nat.le_of_ble_eq_true rfl) ⟨rfl, rfl, ⟨Nat.le_of_ble_eq_true rfl, Nat.le_of_ble_eq_true rfl⟩, ⟨Nat.le_of_ble_eq_true rfl, Nat.le_of_ble_eq_true rfl⟩⟩ d_La_life_5 (x := ⟨0, 10, 13, 19⟩) htab (by decide) (by decide) q_La_19 (by obtain ⟨-, -, -, -, -, -, -, t9, f9, -, -, -, -, -, k1, k2, k3, -⟩ := hK; exact k2) (fun q9 H locs hI => ?_)
  refine lv_astore (lv' := [(4, .ref q9), (0, .ref o), (1, .int n1), (2, .int n2), (3, .ref ou)]) hx hb d_La_life_13 hl (by decide) rfl (fun ls hl => ?_)
  refine lv_iconst (v := 1) hx hb d_La_life_15 (by decide) ?_
  exact gw_iret M hr hlo hI d_La_life_16 (⟨rfl, rfl⟩)

abbrev rm_La_sealt : Room := { frames := 8, cells := 1, slots := 6, locals := 146 }
set_option maxHeartbeats 4000000 in
set_option maxRecDepth 100000 in
theorem c_La_sealt (l : Launch) (htr : l.stackTraces = false) {D : gw_D} {Hs : Heap} {G : gw_G} (n1 n2 : Int32) (ou : Nat) (o arr fed sent places plain gained check : Nat) (hO : G o = some (kx (.inr (5, [.ref arr, .int 0, .ref fed, .ref sent, .ref places, .ref plain, .ref gained, .ref check])))) : Met l y_La_seal (Cond.codeWith y_La_seal b_La_seal 5 (some .int) [(0, 10, 13, 19), (0, 10, 17, 13)] :: tb) rm_La_sealt (gw_Pc D Hs G [.ref o, .int n1, .int n2, .ref ou]) (gw_Qi D Hs (fun r G1 => r = 1 ∧ G1 = G)) 1 6 (gw_A Hs) := by
  refine gw_metW (by decide) (Nat.le_of_ble_eq_true rfl) ?_
  intro p e s m args below meth c M hK hr hlo htab hI ls hl
  have hx := M.1
  have hb := M.2.1
  have hl : lv_has ls 5 [(0, .ref o), (1, .int n1), (2, .int n2), (3, .ref ou)] := hl
  refine lv_aload_n hx hb d_La_seal_0 rfl (lv_at hl 3 rfl) ?_
  refine lv_iconst (v := 0) hx hb d_La_seal_1 (by decide) ?_
  refine lv_aload_n hx hb d_La_seal_2 rfl (lv_at hl 0 rfl) ?_
  refine lv_iload_n hx hb d_La_seal_3 rfl (lv_at hl 1 rfl) ?_
  refine lv_iload_n hx hb d_La_seal_4 rfl (lv_at hl 2 rfl) ?_
  refine xt_try (As := [.int n1, .int n2]) (rest := [.int 0, .ref ou]) M hK hI (c_Gp_sealx l htr n1 n2 o arr fed sent places plain gained check hO) (k_Gp_seal : gk_V _ _ _ _ _) m_La_29 hO (ci := 5) rfl (fun x hx => ⟨_, hx⟩) rfl hl.1 rfl (Nat.le_of_ble_eq_true rfl) ⟨rfl, rfl, ⟨Nat.le_of_ble_eq_true rfl, Nat.le_of_ble_eq_true rfl⟩, ⟨Nat.le_of_ble_eq_true rfl, Nat.le_of_ble_eq_true rfl⟩⟩ d_La_seal_5 (x := ⟨0, 10, 13, 19⟩) htab (by decide) (by decide) q_La_19 (by obtain ⟨-, -, -, -, -, -, -, t9, f9, -, -, -, -, -, k1, k2, k3, -⟩ := hK; exact k2) (fun q9 H locs hI => ?_)
  refine lv_astore (lv' := [(4, .ref q9), (0, .ref o), (1, .int n1), (2, .int n2), (3, .ref ou)]) hx hb d_La_seal_13 hl (by decide) rfl (fun ls hl => ?_)
  refine lv_iconst (v := 1) hx hb d_La_seal_15 (by decide) ?_
  exact gw_iret M hr hlo hI d_La_seal_16 (⟨rfl, rfl⟩)

abbrev rm_La_toldt : Room := { frames := 8, cells := 1, slots := 6, locals := 145 }
set_option maxHeartbeats 4000000 in
set_option maxRecDepth 100000 in
theorem c_La_toldt (l : Launch) (htr : l.stackTraces = false) {D : gw_D} {Hs : Heap} {G : gw_G} (n1 n2 : Int32) (ou : Nat) (o arr fed sent places plain gained check : Nat) (hO : G o = some (kx (.inr (5, [.ref arr, .int 0, .ref fed, .ref sent, .ref places, .ref plain, .ref gained, .ref check])))) : Met l y_La_told (Cond.codeWith y_La_told b_La_told 5 (some .int) [(0, 9, 12, 19), (0, 9, 16, 13)] :: tb) rm_La_toldt (gw_Pc D Hs G [.ref o, .int n1, .int n2, .ref ou]) (gw_Qi D Hs (fun r G1 => r = 1 ∧ G1 = G)) 1 6 (gw_A Hs) := by
  refine gw_metW (by decide) (Nat.le_of_ble_eq_true rfl) ?_
  intro p e s m args below meth c M hK hr hlo htab hI ls hl
  have hx := M.1
  have hb := M.2.1
  have hl : lv_has ls 5 [(0, .ref o), (1, .int n1), (2, .int n2), (3, .ref ou)] := hl
  refine lv_aload_n hx hb d_La_told_0 rfl (lv_at hl 3 rfl) ?_
  refine lv_iconst (v := 0) hx hb d_La_told_1 (by decide) ?_
  refine lv_aload_n hx hb d_La_told_2 rfl (lv_at hl 0 rfl) ?_
  refine lv_iload_n hx hb d_La_told_3 rfl (lv_at hl 1 rfl) ?_
  refine lv_iload_n hx hb d_La_told_4 rfl (lv_at hl 2 rfl) ?_
  refine xt_try (As := [.int n1, .int n2]) (rest := [.int 0, .ref ou]) M hK hI (c_Gp_toldx l htr n1 n2 o arr fed sent places plain gained check hO) (k_Gp_told : gk_V _ _ _ _ _) m_La_48 hO (ci := 5) rfl (fun x hx => ⟨_, hx⟩) rfl hl.1 rfl (Nat.le_of_ble_eq_true rfl) ⟨rfl, rfl, ⟨Nat.le_of_ble_eq_true rfl, Nat.le_of_ble_eq_true rfl⟩, ⟨Nat.le_of_ble_eq_true rfl, Nat.le_of_ble_eq_true rfl⟩⟩ d_La_told_5 (x := ⟨0, 9, 12, 19⟩) htab (by decide) (by decide) q_La_19 (by obtain ⟨-, -, -, -, -, -, -, t9, f9, -, -, -, -, -, k1, k2, k3, -⟩ := hK; exact k2) (fun q9 H locs hI => ?_)
  refine lv_astore (lv' := [(4, .ref q9), (0, .ref o), (1, .int n1), (2, .int n2), (3, .ref ou)]) hx hb d_La_told_12 hl (by decide) rfl (fun ls hl => ?_)
  refine lv_iconst (v := 1) hx hb d_La_told_14 (by decide) ?_
  exact gw_iret M hr hlo hI d_La_told_15 (⟨rfl, rfl⟩)

abbrev rm_La_givent : Room := { frames := 8, cells := 1, slots := 6, locals := 145 }
set_option maxHeartbeats 4000000 in
set_option maxRecDepth 100000 in
theorem c_La_givent (l : Launch) (htr : l.stackTraces = false) {D : gw_D} {Hs : Heap} {G : gw_G} (n1 n2 : Int32) (ou : Nat) (o arr fed sent places plain gained check : Nat) (hO : G o = some (kx (.inr (5, [.ref arr, .int 0, .ref fed, .ref sent, .ref places, .ref plain, .ref gained, .ref check])))) : Met l y_La_given (Cond.codeWith y_La_given b_La_given 5 (some .int) [(0, 9, 12, 19), (0, 9, 16, 13)] :: tb) rm_La_givent (gw_Pc D Hs G [.ref o, .int n1, .int n2, .ref ou]) (gw_Qi D Hs (fun r G1 => r = 1 ∧ G1 = G)) 1 6 (gw_A Hs) := by
  refine gw_metW (by decide) (Nat.le_of_ble_eq_true rfl) ?_
  intro p e s m args below meth c M hK hr hlo htab hI ls hl
  have hx := M.1
  have hb := M.2.1
  have hl : lv_has ls 5 [(0, .ref o), (1, .int n1), (2, .int n2), (3, .ref ou)] := hl
  refine lv_aload_n hx hb d_La_given_0 rfl (lv_at hl 3 rfl) ?_
  refine lv_iconst (v := 0) hx hb d_La_given_1 (by decide) ?_
  refine lv_aload_n hx hb d_La_given_2 rfl (lv_at hl 0 rfl) ?_
  refine lv_iload_n hx hb d_La_given_3 rfl (lv_at hl 1 rfl) ?_
  refine lv_iload_n hx hb d_La_given_4 rfl (lv_at hl 2 rfl) ?_
  refine xt_try (As := [.int n1, .int n2]) (rest := [.int 0, .ref ou]) M hK hI (c_Gp_givenx l htr n1 n2 o arr fed sent places plain gained check hO) (k_Gp_given : gk_V _ _ _ _ _) m_La_52 hO (ci := 5) rfl (fun x hx => ⟨_, hx⟩) rfl hl.1 rfl (Nat.le_of_ble_eq_true rfl) ⟨rfl, rfl, ⟨Nat.le_of_ble_eq_true rfl, Nat.le_of_ble_eq_true rfl⟩, ⟨Nat.le_of_ble_eq_true rfl, Nat.le_of_ble_eq_true rfl⟩⟩ d_La_given_5 (x := ⟨0, 9, 12, 19⟩) htab (by decide) (by decide) q_La_19 (by obtain ⟨-, -, -, -, -, -, -, t9, f9, -, -, -, -, -, k1, k2, k3, -⟩ := hK; exact k2) (fun q9 H locs hI => ?_)
  refine lv_astore (lv' := [(4, .ref q9), (0, .ref o), (1, .int n1), (2, .int n2), (3, .ref ou)]) hx hb d_La_given_12 hl (by decide) rfl (fun ls hl => ?_)
  refine lv_iconst (v := 1) hx hb d_La_given_14 (by decide) ?_
  exact gw_iret M hr hlo hI d_La_given_15 (⟨rfl, rfl⟩)

abbrev rm_La_spoilt : Room := { frames := 7, cells := 1, slots := 6, locals := 123 }
set_option maxHeartbeats 4000000 in
set_option maxRecDepth 100000 in
theorem c_La_spoilt (l : Launch) (htr : l.stackTraces = false) {D : gw_D} {Hs : Heap} {G : gw_G} (n1 n2 : Int32) (ou : Nat) (o arr fed sent places plain gained check : Nat) (hO : G o = some (kx (.inr (5, [.ref arr, .int 0, .ref fed, .ref sent, .ref places, .ref plain, .ref gained, .ref check])))) (sq : Nat) (hS : G sent = some (kx (.inr (3, [.ref sq, .int 0, .int 0])))) (hbS : G sq = some (kA D 1 236 tT)) : Met l y_La_spoil (Cond.codeWith y_La_spoil b_La_spoil 5 (some .int) [(0, 10, 13, 35), (0, 10, 17, 13)] :: tb) rm_La_spoilt (gw_Pc D Hs G [.ref o, .int n1, .int n2, .ref ou]) (gw_Qi D Hs (fun r G1 => r = 1 ∧ G1 = G)) 1 6 (gw_A Hs) := by
  refine gw_metW (by decide) (Nat.le_of_ble_eq_true rfl) ?_
  intro p e s m args below meth c M hK hr hlo htab hI ls hl
  have hx := M.1
  have hb := M.2.1
  have hl : lv_has ls 5 [(0, .ref o), (1, .int n1), (2, .int n2), (3, .ref ou)] := hl
  refine lv_aload_n hx hb d_La_spoil_0 rfl (lv_at hl 3 rfl) ?_
  refine lv_iconst (v := 0) hx hb d_La_spoil_1 (by decide) ?_
  refine lv_aload_n hx hb d_La_spoil_2 rfl (lv_at hl 0 rfl) ?_
  refine lv_iload_n hx hb d_La_spoil_3 rfl (lv_at hl 1 rfl) ?_
  refine lv_iload_n hx hb d_La_spoil_4 rfl (lv_at hl 2 rfl) ?_
  refine xt_try (As := [.int n1, .int n2]) (rest := [.int 0, .ref ou]) M hK hI (c_Gp_spoilx l htr n1 n2 o arr fed sent places plain gained check hO sq hS hbS) (k_Gp_spoil : gk_V _ _ _ _ _) m_La_32 hO (ci := 5) rfl (fun x hx => ⟨_, hx⟩) rfl hl.1 rfl (Nat.le_of_ble_eq_true rfl) ⟨rfl, rfl, ⟨Nat.le_of_ble_eq_true rfl, Nat.le_of_ble_eq_true rfl⟩, ⟨Nat.le_of_ble_eq_true rfl, Nat.le_of_ble_eq_true rfl⟩⟩ d_La_spoil_5 (x := ⟨0, 10, 13, 35⟩) htab (by decide) (by decide) q_La_35 (by obtain ⟨-, -, -, -, -, -, -, t9, f9, -, -, -, -, -, k1, k2, k3, -⟩ := hK; exact k3) (fun q9 H locs hI => ?_)
  refine lv_astore (lv' := [(4, .ref q9), (0, .ref o), (1, .int n1), (2, .int n2), (3, .ref ou)]) hx hb d_La_spoil_13 hl (by decide) rfl (fun ls hl => ?_)
  refine lv_iconst (v := 1) hx hb d_La_spoil_15 (by decide) ?_
  exact gw_iret M hr hlo hI d_La_spoil_16 (⟨rfl, rfl⟩)

abbrev rm_La_feedt : Room := { frames := 7, cells := 1, slots := 6, locals := 124 }
set_option maxHeartbeats 4000000 in
set_option maxRecDepth 100000 in
theorem c_La_feedt (l : Launch) (htr : l.stackTraces = false) {D : gw_D} {Hs : Heap} {G : gw_G} (n1 : Int32) (n2 : Int64) (ou : Nat) (hbad : n1 < 1 ∨ ¬ n1 ≤ 8) (o arr fed sent places plain gained check : Nat) (hO : G o = some (kx (.inr (5, [.ref arr, .int 0, .ref fed, .ref sent, .ref places, .ref plain, .ref gained, .ref check])))) : Met l y_La_feed (Cond.codeWith y_La_feed b_La_feed 6 (some .int) [(0, 11, 14, 13)] :: tb) rm_La_feedt (gw_Pc D Hs G [.ref o, .int n1, .long n2, .ref ou]) (gw_Qi D Hs (fun r G1 => r = 1 ∧ G1 = G)) 1 6 (gw_A Hs) := by
  refine gw_metW (by decide) (Nat.le_of_ble_eq_true rfl) ?_
  intro p e s m args below meth c M hK hr hlo htab hI ls hl
  have hx := M.1
  have hb := M.2.1
  have hl : lv_has ls 6 [(0, .ref o), (1, .int n1), (2, .long n2), (4, .ref ou)] := hl
  refine lv_aload hx hb d_La_feed_0 (lv_at hl 3 rfl) ?_
  refine lv_iconst (v := 0) hx hb d_La_feed_2 (by decide) ?_
  refine lv_aload_n hx hb d_La_feed_3 rfl (lv_at hl 0 rfl) ?_
  refine lv_iload_n hx hb d_La_feed_4 rfl (lv_at hl 1 rfl) ?_
  refine lv_lload_n hx hb d_La_feed_5 rfl (lv_at hl 2 rfl) ?_
  refine xt_try (As := [.int n1, .long n2]) (rest := [.int 0, .ref ou]) M hK hI (c_Gp_feedx l htr n1 n2 hbad o arr fed sent places plain gained check hO) (k_Gp_feed : gk_V _ _ _ _ _) m_La_25 hO (ci := 5) rfl (fun x hx => ⟨_, hx⟩) rfl hl.1 rfl (Nat.le_of_ble_eq_true rfl) ⟨rfl, rfl, ⟨Nat.le_of_ble_eq_true rfl, Nat.le_of_ble_eq_true rfl⟩, ⟨Nat.le_of_ble_eq_true rfl, Nat.le_of_ble_eq_true rfl⟩⟩ d_La_feed_6 (x := ⟨0, 11, 14, 13⟩) htab (by decide) (by decide) q_La_13 (by obtain ⟨-, -, -, -, -, -, -, t9, f9, -, -, -, -, -, k1, k2, k3, -⟩ := hK; exact k1) (fun q9 H locs hI => ?_)
  refine lv_astore (lv' := [(5, .ref q9), (0, .ref o), (1, .int n1), (2, .long n2), (4, .ref ou)]) hx hb d_La_feed_14 hl (by decide) rfl (fun ls hl => ?_)
  refine lv_iconst (v := 1) hx hb d_La_feed_16 (by decide) ?_
  exact gw_iret M hr hlo hI d_La_feed_17 (⟨rfl, rfl⟩)

abbrev rm_La_cutt : Room := { frames := 7, cells := 1, slots := 6, locals := 121 }
set_option maxHeartbeats 4000000 in
set_option maxRecDepth 100000 in
theorem c_La_cutt (l : Launch) (htr : l.stackTraces = false) {D : gw_D} {Hs : Heap} {G : gw_G} (n1 : Int32) (h10 : ¬ n1 = 0) (o arr fed sent places plain gained check : Nat) (hO : G o = some (kx (.inr (5, [.ref arr, .int 0, .ref fed, .ref sent, .ref places, .ref plain, .ref gained, .ref check])))) (sq : Nat) (hS : G sent = some (kx (.inr (3, [.ref sq, .int 0, .int 0])))) (hbS : G sq = some (kA D 1 236 tT)) : Met l y_La_cut (Cond.codeWith y_La_cut b_La_cut 3 (some .int) [(0, 5, 8, 13)] :: tb) rm_La_cutt (gw_Pc D Hs G [.ref o, .int n1]) (gw_Qi D Hs (fun r G1 => r = 1 ∧ G1 = G)) 1 6 (gw_A Hs) := by
  refine gw_metW (by decide) (Nat.le_of_ble_eq_true rfl) ?_
  intro p e s m args below meth c M hK hr hlo htab hI ls hl
  have hx := M.1
  have hb := M.2.1
  have hl : lv_has ls 3 [(0, .ref o), (1, .int n1)] := hl
  refine lv_aload_n hx hb d_La_cut_0 rfl (lv_at hl 0 rfl) ?_
  refine lv_iload_n hx hb d_La_cut_1 rfl (lv_at hl 1 rfl) ?_
  refine xt_try (As := [.int n1]) (rest := []) M hK hI (c_Gp_cutx l htr n1 h10 o arr fed sent places plain gained check hO sq hS hbS) (k_Gp_cut : gk_V _ _ _ _ _) m_La_37 hO (ci := 5) rfl (fun x hx => ⟨_, hx⟩) rfl hl.1 rfl (Nat.le_of_ble_eq_true rfl) ⟨rfl, rfl, ⟨Nat.le_of_ble_eq_true rfl, Nat.le_of_ble_eq_true rfl⟩, ⟨Nat.le_of_ble_eq_true rfl, Nat.le_of_ble_eq_true rfl⟩⟩ d_La_cut_2 (x := ⟨0, 5, 8, 13⟩) htab (by decide) (by decide) q_La_13 (by obtain ⟨-, -, -, -, -, -, -, t9, f9, -, -, -, -, -, k1, k2, k3, -⟩ := hK; exact k1) (fun q9 H locs hI => ?_)
  refine lv_astore_n (lv' := [(2, .ref q9), (0, .ref o), (1, .int n1)]) hx hb d_La_cut_8 rfl hl (by decide) rfl (fun ls hl => ?_)
  refine lv_iconst (v := 1) hx hb d_La_cut_9 (by decide) ?_
  exact gw_iret M hr hlo hI d_La_cut_10 (⟨rfl, rfl⟩)

abbrev rm_La_keept : Room := { frames := 7, cells := 1, slots := 6, locals := 121 }
set_option maxHeartbeats 4000000 in
set_option maxRecDepth 100000 in
theorem c_La_keept (l : Launch) (htr : l.stackTraces = false) {D : gw_D} {Hs : Heap} {G : gw_G} (n1 : Int32) (hbad : n1 < 0 ∨ 8 ≤ n1) (o arr fed sent places plain gained check : Nat) (hO : G o = some (kx (.inr (5, [.ref arr, .int 0, .ref fed, .ref sent, .ref places, .ref plain, .ref gained, .ref check])))) : Met l y_La_keep (Cond.codeWith y_La_keep b_La_keep 3 (some .int) [(0, 5, 8, 35)] :: tb) rm_La_keept (gw_Pc D Hs G [.ref o, .int n1]) (gw_Qi D Hs (fun r G1 => r = 1 ∧ G1 = G)) 1 6 (gw_A Hs) := by
  refine gw_metW (by decide) (Nat.le_of_ble_eq_true rfl) ?_
  intro p e s m args below meth c M hK hr hlo htab hI ls hl
  have hx := M.1
  have hb := M.2.1
  have hl : lv_has ls 3 [(0, .ref o), (1, .int n1)] := hl
  refine lv_aload_n hx hb d_La_keep_0 rfl (lv_at hl 0 rfl) ?_
  refine lv_iload_n hx hb d_La_keep_1 rfl (lv_at hl 1 rfl) ?_
  refine xt_try (As := [.int n1]) (rest := []) M hK hI (c_Gp_keepx l htr n1 hbad o arr fed sent places plain gained check hO) (k_Gp_keep : gk_V _ _ _ _ _) m_La_41 hO (ci := 5) rfl (fun x hx => ⟨_, hx⟩) rfl hl.1 rfl (Nat.le_of_ble_eq_true rfl) ⟨rfl, rfl, ⟨Nat.le_of_ble_eq_true rfl, Nat.le_of_ble_eq_true rfl⟩, ⟨Nat.le_of_ble_eq_true rfl, Nat.le_of_ble_eq_true rfl⟩⟩ d_La_keep_2 (x := ⟨0, 5, 8, 35⟩) htab (by decide) (by decide) q_La_35 (by obtain ⟨-, -, -, -, -, -, -, t9, f9, -, -, -, -, -, k1, k2, k3, -⟩ := hK; exact k3) (fun q9 H locs hI => ?_)
  refine lv_astore_n (lv' := [(2, .ref q9), (0, .ref o), (1, .int n1)]) hx hb d_La_keep_8 rfl hl (by decide) rfl (fun ls hl => ?_)
  refine lv_iconst (v := 1) hx hb d_La_keep_9 (by decide) ?_
  exact gw_iret M hr hlo hI d_La_keep_10 (⟨rfl, rfl⟩)

abbrev rm_La_bringt : Room := { frames := 7, cells := 1, slots := 6, locals := 121 }
set_option maxHeartbeats 4000000 in
set_option maxRecDepth 100000 in
theorem c_La_bringt (l : Launch) (htr : l.stackTraces = false) {D : gw_D} {Hs : Heap} {G : gw_G} (n1 : Int32) (ou : Nat) (hbad : n1 < 0 ∨ 8 ≤ n1) (o arr fed sent places plain gained check : Nat) (hO : G o = some (kx (.inr (5, [.ref arr, .int 0, .ref fed, .ref sent, .ref places, .ref plain, .ref gained, .ref check])))) : Met l y_La_bring (Cond.codeWith y_La_bring b_La_bring 4 (some .int) [(0, 9, 12, 35)] :: tb) rm_La_bringt (gw_Pc D Hs G [.ref o, .int n1, .ref ou]) (gw_Qi D Hs (fun r G1 => r = 1 ∧ G1 = G)) 1 6 (gw_A Hs) := by
  refine gw_metW (by decide) (Nat.le_of_ble_eq_true rfl) ?_
  intro p e s m args below meth c M hK hr hlo htab hI ls hl
  have hx := M.1
  have hb := M.2.1
  have hl : lv_has ls 4 [(0, .ref o), (1, .int n1), (2, .ref ou)] := hl
  refine lv_aload_n hx hb d_La_bring_0 rfl (lv_at hl 2 rfl) ?_
  refine lv_iconst (v := 0) hx hb d_La_bring_1 (by decide) ?_
  refine lv_aload_n hx hb d_La_bring_2 rfl (lv_at hl 0 rfl) ?_
  refine lv_iload_n hx hb d_La_bring_3 rfl (lv_at hl 1 rfl) ?_
  refine xt_try (As := [.int n1]) (rest := [.int 0, .ref ou]) M hK hI (c_Gp_bringx l htr n1 hbad o arr fed sent places plain gained check hO) (k_Gp_bring : gk_V _ _ _ _ _) m_La_44 hO (ci := 5) rfl (fun x hx => ⟨_, hx⟩) rfl hl.1 rfl (Nat.le_of_ble_eq_true rfl) ⟨rfl, rfl, ⟨Nat.le_of_ble_eq_true rfl, Nat.le_of_ble_eq_true rfl⟩, ⟨Nat.le_of_ble_eq_true rfl, Nat.le_of_ble_eq_true rfl⟩⟩ d_La_bring_4 (x := ⟨0, 9, 12, 35⟩) htab (by decide) (by decide) q_La_35 (by obtain ⟨-, -, -, -, -, -, -, t9, f9, -, -, -, -, -, k1, k2, k3, -⟩ := hK; exact k3) (fun q9 H locs hI => ?_)
  refine lv_astore_n (lv' := [(3, .ref q9), (0, .ref o), (1, .int n1), (2, .ref ou)]) hx hb d_La_bring_12 rfl hl (by decide) rfl (fun ls hl => ?_)
  refine lv_iconst (v := 1) hx hb d_La_bring_13 (by decide) ?_
  exact gw_iret M hr hlo hI d_La_bring_14 (⟨rfl, rfl⟩)

abbrev rm_La_addr : Room := { frames := 5, cells := 0, slots := 0, locals := 131 }
set_option maxHeartbeats 4000000 in
set_option maxRecDepth 100000 in
theorem c_La_addr (l : Launch) (htr : l.stackTraces = false) {D : gw_D} {Hs : Heap} {G : gw_G} (n1 : Int32) (kh kl : Int64) (n6 n7 n8 : Int32) (h8 : n8 = 0 ∨ n8 = 1) (hok : ¬ n1 < 256 ∧ okW n7) (as : Nat → Nat) (ou : Nat) (f0 : Nat → Int64) (hU : G ou = some (kx (.inl (D.2 3, 1, .inr (.inl f0))))) (o arr fed sent places plain gained check : Nat) (hO : G o = some (kx (.inr (5, [.ref arr, .int 0, .ref fed, .ref sent, .ref places, .ref plain, .ref gained, .ref check])))) (hArr : G arr = some (kR D 4 16 (fun j b => b = as j))) (hAs : isAs D G (as 0)) : Met l y_La_add (Cond.codeWith y_La_add b_La_add 11 (some .int) [(0, 26, 29, 13)] :: tb) rm_La_addr (gw_Pc D Hs G [.ref o, .int n1, .long kh, .long kl, .int n6, .int n7, .int n8, .ref ou]) (gw_Qi D Hs (fun r G1 => r = 0 ∧ G1 = gw_up (gw_up G o (kx (.inr (5, [.ref arr, .int 1, .ref fed, .ref sent, .ref places, .ref plain, .ref gained, .ref check])))) ou (kx (.inl (D.2 3, 1, .inr (.inl (vp_updL f0 (0 : Int32).toNatClampNeg 1))))))) 0 0 (gw_A Hs) := by
  refine gw_metW (by decide) (Nat.le_of_ble_eq_true rfl) ?_
  intro p e s m args below meth c M hK hr hlo htab hI ls hl
  have hx := M.1
  have hb := M.2.1
  have hl : lv_has ls 11 [(0, .ref o), (1, .int n1), (2, .long kh), (4, .long kl), (6, .int n6), (7, .int n7), (8, .int n8), (9, .ref ou)] := hl
  refine lv_aload hx hb d_La_add_0 (lv_at hl 7 rfl) ?_
  refine lv_iconst (v := 0) hx hb d_La_add_2 (by decide) ?_
  refine lv_aload_n hx hb d_La_add_3 rfl (lv_at hl 0 rfl) ?_
  refine lv_iload_n hx hb d_La_add_4 rfl (lv_at hl 1 rfl) ?_
  refine lv_lload_n hx hb d_La_add_5 rfl (lv_at hl 2 rfl) ?_
  refine lv_lload hx hb d_La_add_6 (lv_at hl 3 rfl) ?_
  refine lv_iload hx hb d_La_add_8 (lv_at hl 4 rfl) ?_
  refine lv_iload hx hb d_La_add_10 (lv_at hl 5 rfl) ?_
  refine lv_iload hx hb d_La_add_12 (lv_at hl 6 rfl) ?_
  refine gw_Vi (As := [.int n1, .long kh, .long kl, .int n6, .int n7, .int n8]) (rest := [.int 0, .ref ou]) M hK hI (c_Gp_add l n1 kh kl n6 n7 n8 h8 hok o arr fed sent places plain gained check hO as hArr hAs) k_Gp_add m_La_7 hO (ci := 5) rfl (fun x hx => ⟨_, hx⟩) rfl hl.1 rfl (Nat.le_of_ble_eq_true rfl) ⟨rfl, rfl, ⟨Nat.le_of_ble_eq_true rfl, Nat.le_of_ble_eq_true rfl⟩, ⟨Nat.le_of_ble_eq_true rfl, Nat.le_of_ble_eq_true rfl⟩⟩ d_La_add_14 (fun x1 G2 H locs hw hI => ?_)
  obtain ⟨h_x1, hw⟩ := hw
  subst h_x1
  have hne : ou ≠ o := (ne_x hO hU (fun q => by cases q)).symm
  have hU2 : G2 ou = some (kx (.inl (D.2 3, 1, .inr (.inl f0)))) := by rw [hw, gw_up_n hne]; exact hU
  refine lv_if_eq (tgt := 24) hx hb d_La_add_17 (by decide) (fun q9 => absurd q9 (by decide)) (fun c_17 => ?_)
  refine lv_lconst (v := 1) hx hb d_La_add_20 (by decide) ?_
  refine lv_goto (tgt := 25) hx hb d_La_add_21 (by decide) ?_
  refine gw_lastx M hK hI hU2 (vp_in_nI (n := 0) (by decide) (by decide)) d_La_add_25 (fun H locs hI => ?_)
  obtain ⟨G3, hE_G3⟩ : ∃ z9, gw_up G2 ou (kx (.inl (D.2 3, 1, .inr (.inl (vp_updL f0 ((0 : Int32)).toNatClampNeg (1 : Int64)))))) = z9 := ⟨_, rfl⟩
  rw [hE_G3] at hI
  have hG5 : G3 ou = some (kx (.inl (D.2 3, 1, .inr (.inl (vp_updL f0 ((0 : Int32)).toNatClampNeg (1 : Int64)))))) := by rw [← hE_G3]; exact gw_up_s
  have hs4 : gw_fr (fun b => b = ou) G2 G3 := by rw [← hE_G3]; exact gw_fr.up rfl
  refine lv_goto (tgt := 33) hx hb d_La_add_26 (by decide) ?_
  refine lv_iconst (v := 0) hx hb d_La_add_33 (by decide) ?_
  exact gw_iret M hr hlo hI d_La_add_34 (⟨rfl, by rw [← hE_G3, hw]⟩)

abbrev rm_La_feedr : Room := { frames := 2, cells := 0, slots := 0, locals := 45 }
set_option maxHeartbeats 4000000 in
set_option maxRecDepth 100000 in
theorem c_La_feedr (l : Launch) (htr : l.stackTraces = false) {D : gw_D} {Hs : Heap} {G : gw_G} (n1 : Int32) (n2 : Int64) (hok : ¬ n1 < 1 ∧ n1 ≤ 8) (ou : Nat) (f0 : Nat → Int64) (hU : G ou = some (kx (.inl (D.2 3, 1, .inr (.inl f0))))) (o arr fed sent places plain gained check : Nat) (hO : G o = some (kx (.inr (5, [.ref arr, .int 0, .ref fed, .ref sent, .ref places, .ref plain, .ref gained, .ref check])))) (fq : Nat) (hF : G fed = some (kx (.inr (3, [.ref fq, .int 0, .int 0])))) (hbF : G fq = some (kA D 1 200 tT)) : Met l y_La_feed (Cond.codeWith y_La_feed b_La_feed 6 (some .int) [(0, 11, 14, 13)] :: tb) rm_La_feedr (gw_Pc D Hs G [.ref o, .int n1, .long n2, .ref ou]) (gw_Qi D Hs (fun r G1 => r = 0 ∧ G1 = gw_up (gw_up G fed (kx (.inr (3, [.ref fq, .int n1, .int 0])))) ou (kx (.inl (D.2 3, 1, .inr (.inl (vp_updL f0 (0 : Int32).toNatClampNeg ((n1).toInt64)))))))) 0 0 (gw_A Hs) := by
  refine gw_metW (by decide) (Nat.le_of_ble_eq_true rfl) ?_
  intro p e s m args below meth c M hK hr hlo htab hI ls hl
  have hx := M.1
  have hb := M.2.1
  have hl : lv_has ls 6 [(0, .ref o), (1, .int n1), (2, .long n2), (4, .ref ou)] := hl
  refine lv_aload hx hb d_La_feed_0 (lv_at hl 3 rfl) ?_
  refine lv_iconst (v := 0) hx hb d_La_feed_2 (by decide) ?_
  refine lv_aload_n hx hb d_La_feed_3 rfl (lv_at hl 0 rfl) ?_
  refine lv_iload_n hx hb d_La_feed_4 rfl (lv_at hl 1 rfl) ?_
  refine lv_lload_n hx hb d_La_feed_5 rfl (lv_at hl 2 rfl) ?_
  refine gw_Vi (As := [.int n1, .long n2]) (rest := [.int 0, .ref ou]) M hK hI (c_Gp_feed l n1 n2 hok o arr fed sent places plain gained check hO fq hF hbF) k_Gp_feed m_La_25 hO (ci := 5) rfl (fun x hx => ⟨_, hx⟩) rfl hl.1 rfl (Nat.le_of_ble_eq_true rfl) ⟨rfl, rfl, ⟨Nat.le_of_ble_eq_true rfl, Nat.le_of_ble_eq_true rfl⟩, ⟨Nat.le_of_ble_eq_true rfl, Nat.le_of_ble_eq_true rfl⟩⟩ d_La_feed_6 (fun x1 G2 H locs hw hI => ?_)
  obtain ⟨h_x1, hw⟩ := hw
  have hne : ou ≠ fed := (ne_x hF hU (fun q => by cases q)).symm
  have hU2 : G2 ou = some (kx (.inl (D.2 3, 1, .inr (.inl f0)))) := by rw [hw, gw_up_n hne]; exact hU
  refine lv_i2l hx hb d_La_feed_9 rfl ?_
  refine lv_topl (fun x3 e_x3 => ?_)
  refine gw_lastx M hK hI hU2 (vp_in_nI (n := 0) (by decide) (by decide)) d_La_feed_10 (fun H locs hI => ?_)
  obtain ⟨G4, hE_G4⟩ : ∃ z9, gw_up G2 ou (kx (.inl (D.2 3, 1, .inr (.inl (vp_updL f0 ((0 : Int32)).toNatClampNeg x3))))) = z9 := ⟨_, rfl⟩
  rw [hE_G4] at hI
  have hG6 : G4 ou = some (kx (.inl (D.2 3, 1, .inr (.inl (vp_updL f0 ((0 : Int32)).toNatClampNeg x3))))) := by rw [← hE_G4]; exact gw_up_s
  have hs5 : gw_fr (fun b => b = ou) G2 G4 := by rw [← hE_G4]; exact gw_fr.up rfl
  refine lv_goto (tgt := 18) hx hb d_La_feed_11 (by decide) ?_
  refine lv_iconst (v := 0) hx hb d_La_feed_18 (by decide) ?_
  exact gw_iret M hr hlo hI d_La_feed_19 (⟨rfl, by rw [← hE_G4, hw, e_x3, h_x1]⟩)

abbrev rm_La_bringr : Room := { frames := 2, cells := 0, slots := 0, locals := 41 }
set_option maxHeartbeats 4000000 in
set_option maxRecDepth 100000 in
theorem c_La_bringr (l : Launch) (htr : l.stackTraces = false) {D : gw_D} {Hs : Heap} {G : gw_G} (n1 : Int32) (ou : Nat) (f0 : Nat → Int64) (hU : G ou = some (kx (.inl (D.2 3, 1, .inr (.inl f0))))) (o arr fed sent places plain gained check : Nat) (hO : G o = some (kx (.inr (5, [.ref arr, .int 0, .ref fed, .ref sent, .ref places, .ref plain, .ref gained, .ref check])))) (sq : Nat) (hS : G sent = some (kx (.inr (3, [.ref sq, .int 0, .int 0])))) (hbS : G sq = some (kA D 1 236 tT)) (ro : Nat → Nat) (hok : ¬ n1 < 0 ∧ ¬ 8 ≤ n1) (hL : G places = some (kR D 5 8 (fun j b => b = ro j))) (hRo : ∀ j, j < 8 → isRo D G 236 (ro j)) (hRs : ∀ j, j < 8 → sent ≠ ro j) : Met l y_La_bring (Cond.codeWith y_La_bring b_La_bring 4 (some .int) [(0, 9, 12, 35)] :: tb) rm_La_bringr (gw_Pc D Hs G [.ref o, .int n1, .ref ou]) (gw_Qi D Hs (fun r G1 => r = 0 ∧ G1 = gw_up G ou (kx (.inl (D.2 3, 1, .inr (.inl (vp_updL f0 (0 : Int32).toNatClampNeg (((-1 : Int32)).toInt64)))))))) 0 0 (gw_A Hs) := by
  refine gw_metW (by decide) (Nat.le_of_ble_eq_true rfl) ?_
  intro p e s m args below meth c M hK hr hlo htab hI ls hl
  have hx := M.1
  have hb := M.2.1
  have hl : lv_has ls 4 [(0, .ref o), (1, .int n1), (2, .ref ou)] := hl
  refine lv_aload_n hx hb d_La_bring_0 rfl (lv_at hl 2 rfl) ?_
  refine lv_iconst (v := 0) hx hb d_La_bring_1 (by decide) ?_
  refine lv_aload_n hx hb d_La_bring_2 rfl (lv_at hl 0 rfl) ?_
  refine lv_iload_n hx hb d_La_bring_3 rfl (lv_at hl 1 rfl) ?_
  refine gw_Vi (As := [.int n1]) (rest := [.int 0, .ref ou]) M hK hI (c_Gp_bring l n1 o arr fed sent places plain gained check hO sq hS hbS ro hok hL hRo hRs) k_Gp_bring m_La_44 hO (ci := 5) rfl (fun x hx => ⟨_, hx⟩) rfl hl.1 rfl (Nat.le_of_ble_eq_true rfl) ⟨rfl, rfl, ⟨Nat.le_of_ble_eq_true rfl, Nat.le_of_ble_eq_true rfl⟩, ⟨Nat.le_of_ble_eq_true rfl, Nat.le_of_ble_eq_true rfl⟩⟩ d_La_bring_4 (fun x1 G9 H locs hw hI => ?_)
  obtain ⟨h_x1, hw⟩ := hw
  rw [hw] at hI
  subst h_x1
  refine lv_i2l hx hb d_La_bring_7 rfl ?_
  refine lv_topl (fun x2 e_x2 => ?_)
  refine gw_lastx M hK hI hU (vp_in_nI (n := 0) (by decide) (by decide)) d_La_bring_8 (fun H locs hI => ?_)
  obtain ⟨G3, hE_G3⟩ : ∃ z9, gw_up G ou (kx (.inl (D.2 3, 1, .inr (.inl (vp_updL f0 ((0 : Int32)).toNatClampNeg x2))))) = z9 := ⟨_, rfl⟩
  rw [hE_G3] at hI
  have hG5 : G3 ou = some (kx (.inl (D.2 3, 1, .inr (.inl (vp_updL f0 ((0 : Int32)).toNatClampNeg x2))))) := by rw [← hE_G3]; exact gw_up_s
  have hs4 : gw_fr (fun b => b = ou) G G3 := by rw [← hE_G3]; exact gw_fr.up rfl
  refine lv_goto (tgt := 15) hx hb d_La_bring_9 (by decide) ?_
  refine lv_iconst (v := 0) hx hb d_La_bring_15 (by decide) ?_
  exact gw_iret M hr hlo hI d_La_bring_16 (⟨rfl, by rw [← hE_G3, e_x2]⟩)

abbrev rm_La_cutr : Room := { frames := 2, cells := 0, slots := 0, locals := 42 }
set_option maxHeartbeats 4000000 in
set_option maxRecDepth 100000 in
theorem c_La_cutr (l : Launch) (htr : l.stackTraces = false) {D : gw_D} {Hs : Heap} {G : gw_G} (o arr fed sent places plain gained check : Nat) (hO : G o = some (kx (.inr (5, [.ref arr, .int 0, .ref fed, .ref sent, .ref places, .ref plain, .ref gained, .ref check])))) (sq : Nat) (hS : G sent = some (kx (.inr (3, [.ref sq, .int 0, .int 0])))) (hbS : G sq = some (kA D 1 236 tT)) : Met l y_La_cut (Cond.codeWith y_La_cut b_La_cut 3 (some .int) [(0, 5, 8, 13)] :: tb) rm_La_cutr (gw_Pc D Hs G [.ref o, .int 0]) (gw_Qi D Hs (fun r G1 => r = 0 ∧ G1 = G)) 0 0 (gw_A Hs) := by
  refine gw_metW (by decide) (Nat.le_of_ble_eq_true rfl) ?_
  intro p e s m args below meth c M hK hr hlo htab hI ls hl
  have hx := M.1
  have hb := M.2.1
  have hl : lv_has ls 3 [(0, .ref o), (1, .int 0)] := hl
  refine lv_aload_n hx hb d_La_cut_0 rfl (lv_at hl 0 rfl) ?_
  refine lv_iload_n hx hb d_La_cut_1 rfl (lv_at hl 1 rfl) ?_
  refine gw_Vv (As := [.int 0]) (rest := []) M hK hI (c_Gp_cut l o arr fed sent places plain gained check hO sq hS hbS) k_Gp_cut m_La_37 hO (ci := 5) rfl (fun x hx => ⟨_, hx⟩) rfl hl.1 rfl (Nat.le_of_ble_eq_true rfl) ⟨rfl, rfl, ⟨Nat.le_of_ble_eq_true rfl, Nat.le_of_ble_eq_true rfl⟩, ⟨Nat.le_of_ble_eq_true rfl, Nat.le_of_ble_eq_true rfl⟩⟩ d_La_cut_2 (fun G9 H locs hw hI => ?_)
  rw [hw] at hI
  refine lv_goto (tgt := 11) hx hb d_La_cut_5 (by decide) ?_
  refine lv_iconst (v := 0) hx hb d_La_cut_11 (by decide) ?_
  exact gw_iret M hr hlo hI d_La_cut_12 (⟨rfl, rfl⟩)

abbrev rm_La_keepr : Room := { frames := 3, cells := 0, slots := 0, locals := 66 }
set_option maxHeartbeats 4000000 in
set_option maxRecDepth 100000 in
theorem c_La_keepr (l : Launch) (htr : l.stackTraces = false) {D : gw_D} {Hs : Heap} {G : gw_G} (n1 : Int32) (o arr fed sent places plain gained check : Nat) (hO : G o = some (kx (.inr (5, [.ref arr, .int 0, .ref fed, .ref sent, .ref places, .ref plain, .ref gained, .ref check])))) (sq : Nat) (hS : G sent = some (kx (.inr (3, [.ref sq, .int 0, .int 0])))) (hbS : G sq = some (kA D 1 236 tT)) (ro : Nat → Nat) (hok : ¬ n1 < 0 ∧ ¬ 8 ≤ n1) (hL : G places = some (kR D 5 8 (fun j b => b = ro j))) (hRo : ∀ j, j < 8 → isRo D G 236 (ro j)) (hRs : ∀ j, j < 8 → sent ≠ ro j) : Met l y_La_keep (Cond.codeWith y_La_keep b_La_keep 3 (some .int) [(0, 5, 8, 35)] :: tb) rm_La_keepr (gw_Pc D Hs G [.ref o, .int n1]) (gw_Qi D Hs (fun r G1 => r = 0 ∧ G1 = G)) 0 0 (gw_A Hs) := by
  refine gw_metW (by decide) (Nat.le_of_ble_eq_true rfl) ?_
  intro p e s m args below meth c M hK hr hlo htab hI ls hl
  have hx := M.1
  have hb := M.2.1
  have hl : lv_has ls 3 [(0, .ref o), (1, .int n1)] := hl
  refine lv_aload_n hx hb d_La_keep_0 rfl (lv_at hl 0 rfl) ?_
  refine lv_iload_n hx hb d_La_keep_1 rfl (lv_at hl 1 rfl) ?_
  refine gw_Vv (As := [.int n1]) (rest := []) M hK hI (c_Gp_keep l n1 o arr fed sent places plain gained check hO sq hS hbS ro hok hL hRo hRs) k_Gp_keep m_La_41 hO (ci := 5) rfl (fun x hx => ⟨_, hx⟩) rfl hl.1 rfl (Nat.le_of_ble_eq_true rfl) ⟨rfl, rfl, ⟨Nat.le_of_ble_eq_true rfl, Nat.le_of_ble_eq_true rfl⟩, ⟨Nat.le_of_ble_eq_true rfl, Nat.le_of_ble_eq_true rfl⟩⟩ d_La_keep_2 (fun G9 H locs hw hI => ?_)
  rw [hw] at hI
  refine lv_goto (tgt := 11) hx hb d_La_keep_5 (by decide) ?_
  refine lv_iconst (v := 0) hx hb d_La_keep_11 (by decide) ?_
  exact gw_iret M hr hlo hI d_La_keep_12 (⟨rfl, rfl⟩)
