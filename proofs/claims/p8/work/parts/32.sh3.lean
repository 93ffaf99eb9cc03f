theorem mm_s : Cond.static Lib.Math.min.name ∈ tb := tb_2 96 rfl rfl
theorem mm_sl : Cond.static Lib.MathLoose.min_long.x ∈ tb := tb_2 73 rfl rfl
theorem mm_z : Cond.initialized "java/lang/Math" ∈ tb := tb_1 13 rfl rfl
theorem mm_c : Cond.code Lib.Math.min.name Lib.Math.min.code 2 (some .int) ∈ tb := tb_2 97 rfl rfl
theorem mm_cl : Cond.code Lib.MathLoose.min_long.x Lib.MathLoose.min_long.code 4 (some .long) ∈ tb := tb_2 74 rfl rfl

theorem okV_n {x : Int32} (h : okV x) : ∃ w : Nat, 1 ≤ w ∧ w ≤ 1024 ∧ x = nI w := by
  have h0 : ¬ x < 0 := fun q => by rw [Int32.lt_iff_toInt_lt] at q; have e0 : (0 : Int32).toInt = 0 := rfl; have := h.1; omega
  obtain ⟨w, hw, rfl⟩ := nI_of h0
  have h2 := nI_toInt hw
  obtain ⟨h3, h4⟩ := h
  exact ⟨w, by omega, by omega, rfl⟩
/-- how many steps: at most the width, at most the distance -/
theorem fg_n {i t : Int64} {x : Int32} (hx : okV x) (h0 : ¬ t < 0) (h1 : t < i) : ∃ j n : Nat, j < 2 ^ 63 ∧ i = lN j ∧ n ≤ 1024 ∧ n ≤ j ∧ ((if x.toInt64 < i - t then x.toInt64 else i - t)).toInt32 = nI n := by
  obtain ⟨w, hw1, hw2, rfl⟩ := okV_n hx
  obtain ⟨b, hb, rfl⟩ := pk_lOf h0
  have h2 : ¬ i < 0 := fun q => by
    rw [Int64.lt_iff_toInt_lt] at q h1
    have e1 := pk_lT hb
    have e0 : (0 : Int64).toInt = 0 := rfl
    omega
  obtain ⟨j, hj, rfl⟩ := pk_lOf h2
  have h3 : b < j := (pk_lLT hb hj).mp h1
  rw [nI_l (by omega), lN_sub (by omega)]
  by_cases hc : lN w < lN (j - b)
  · rw [if_pos hc, lN_i]
    have := (pk_lLT (by omega) (by omega)).mp hc
    exact ⟨j, w, hj, rfl, hw2, by omega, rfl⟩
  · rw [if_neg hc, lN_i]
    have : j - b ≤ w := by
      rcases Nat.lt_or_ge w (j - b) with q | q
      · exact absurd ((pk_lLT (by omega) (by omega)).mpr q) hc
      · exact q
    exact ⟨j, j - b, hj, rfl, by omega, by omega, rfl⟩
theorem fg_1 {j k n : Nat} {y : Int32} (hj : j < 2 ^ 63) (hn : n ≤ 1024) (hnj : n ≤ j) (hk : k < n) (hy : y = nI k) : ¬ lN j - y.toInt64 < 1 := by
  rw [hy, nI_l (by omega), lN_sub (by omega)]
  intro q
  have h := (pk_lLT (a := j - k) (b := 1) (by omega) (by decide)).mp q
  omega

abbrev rm_Wi_forget : Room := { frames := 1, cells := 0, slots := 0, locals := 20 }
set_option maxHeartbeats 4000000 in
set_option maxRecDepth 100000 in
theorem c_Wi_forget (l : Launch) {D : gw_D} {Hs : Heap} {G : gw_G} (i0 : Int64) (t0 : Int64) (x0 : Int32) (hx0 : okV x0) (ht0 : ¬ t0 < 0) (hti : t0 < i0) (a bi : Nat) (hA : G a = some (kx (.inr (4, [.ref bi, .int x0, .long t0])))) (hB : G bi = some (kA D 0 32 tT)) : Met l y_Wi_forget (Cond.code y_Wi_forget b_Wi_forget 6 none :: tb) rm_Wi_forget (gw_Pc D Hs G [.ref a, .long i0]) (gw_Qv D Hs (fun G1 => G1 = G)) 0 0 (gw_A Hs) := by
  refine gw_met (by decide) (Nat.le_of_ble_eq_true rfl) ?_
  intro p e s m args below meth c M hK hr hlo hin hI ls hl
  have hx := M.1
  have hb := M.2.1
  have hl : lv_has ls 6 [(0, .ref a), (1, .long i0)] := hl
  obtain ⟨j, n, hj, hij, hn, hnj, hst⟩ := fg_n hx0 ht0 hti
  refine lv_lload_n hx hb d_Wi_forget_0 rfl (lv_at hl 1 rfl) ?_
  refine lv_aload_n hx hb d_Wi_forget_1 rfl (lv_at hl 0 rfl) ?_
  refine gw_get M hK hI hA i_Wi rfl 2 (by decide) f_Wi_19 rfl (Pv := fun v => v = .long t0) (fun x hx => ⟨_, _, hx, rfl, rfl⟩) d_Wi_forget_2 (fun v hv => ?_)
  subst hv
  refine lv_lsub hx hb d_Wi_forget_5 ?_
  refine lv_aload_n hx hb d_Wi_forget_6 rfl (lv_at hl 0 rfl) ?_
  refine gw_get M hK hI hA i_Wi rfl 1 (by decide) f_Wi_15 rfl (Pv := fun v => v = .int x0) (fun x hx => ⟨_, _, hx, rfl, rfl⟩) d_Wi_forget_7 (fun v hv => ?_)
  subst hv
  refine lv_i2l hx hb d_Wi_forget_10 rfl ?_
  refine va_mmin_long hx hb (by rw [M.2.2.1]; exact hl.1.symm) M.2.2.2.1 (M.2.2.2.2 _ m_Wi_31) (M.2.2.2.2 _ mm_sl) (M.2.2.2.2 _ mm_z) (M.2.2.2.2 _ mm_cl) (Nat.le_of_ble_eq_true rfl) (Nat.le_of_ble_eq_true rfl) (Nat.le_of_ble_eq_true rfl) (Nat.le_of_ble_eq_true rfl) d_Wi_forget_11 ?_
  refine lv_l2i hx hb d_Wi_forget_14 rfl ?_
  refine lv_topi (fun x1 e_x1 => ?_)
  refine lv_istore_n (lv' := [(3, .int x1), (0, .ref a), (1, .long i0)]) hx hb d_Wi_forget_15 rfl hl (by decide) rfl (fun ls hl => ?_)
  refine lv_iconst (v := 0) hx hb d_Wi_forget_16 (by decide) ?_
  refine lv_istore (lv' := [(4, .int 0), (3, .int x1), (0, .ref a), (1, .long i0)]) hx hb d_Wi_forget_17 hl (by decide) rfl (fun ls hl => ?_)
  have L_19 : ∀ (n9 : Nat) (k : Nat) (y3 : Int32) (y4 : Int32) (H : Heap) (locs : List Loc) (ls : Array Slot), k ≤ n → y3 = nI n → y4 = nI k → n - k < n9 → gw_I D Hs G s.heap H locs → lv_has ls 6 [(4, .int y4), (3, .int y3), (0, .ref a), (1, .long i0)] → W p l e rm_Wi_forget s m args below meth c H locs 0 0 (MQ below (gw_Qv D Hs (fun G1 => G1 = G)) args s 0 0 (gw_A Hs)) (F0 m 19 ls []) := by
    intro n9
    induction n9 with
    | zero =>
      intro k y3 y4 H locs ls hkn h3 hk hm hI hl
      exact absurd hm (Nat.not_lt_zero _)
    | succ n9 ih_19 =>
      intro k y3 y4 H locs ls hkn h3 hk hm_19 hI hl
      refine lv_iload hx hb d_Wi_forget_19 (lv_at hl 0 rfl) ?_
      refine lv_iload_n hx hb d_Wi_forget_21 rfl (lv_at hl 1 rfl) ?_
      refine lv_icmp_ge (tgt := 67) hx hb d_Wi_forget_22 (by decide) (fun c_22 => ?_) (fun c_22 => ?_)
      · exact gw_vret M hr hlo hI d_Wi_forget_67 rfl
      · have hlt : k < n := nb_lt hk (by rw [← h3]; exact c_22) (by omega) (by omega)
        refine lv_lload_n hx hb d_Wi_forget_25 rfl (lv_at hl 3 rfl) ?_
        refine lv_iload hx hb d_Wi_forget_26 (lv_at hl 0 rfl) ?_
        refine lv_i2l hx hb d_Wi_forget_28 rfl ?_
        refine lv_lsub hx hb d_Wi_forget_29 ?_
        refine lv_aload_n hx hb d_Wi_forget_30 rfl (lv_at hl 2 rfl) ?_
        refine gw_get M hK hI hA i_Wi rfl 1 (by decide) f_Wi_15 rfl (Pv := fun v => v = .int x0) (fun x hx => ⟨_, _, hx, rfl, rfl⟩) d_Wi_forget_31 (fun v hv => ?_)
        subst hv
        refine lv_i2l hx hb d_Wi_forget_34 rfl ?_
        refine lv_lrem hx hb d_Wi_forget_35 (wd_ne hx0) ?_
        refine lv_l2i hx hb d_Wi_forget_36 rfl ?_
        refine lv_topi (fun x2 e_x2 => ?_)
        refine lv_istore (lv' := [(5, .int x2), (4, .int y4), (3, .int y3), (0, .ref a), (1, .long i0)]) hx hb d_Wi_forget_37 hl (by decide) rfl (fun ls hl => ?_)
        refine lv_aload_n hx hb d_Wi_forget_39 rfl (lv_at hl 3 rfl) ?_
        refine gw_get M hK hI hA i_Wi rfl 0 (by decide) f_Wi_9 rfl (Pv := fun v => v = .ref bi) (fun x hx => ⟨_, _, hx, rfl, rfl⟩) d_Wi_forget_40 (fun v hv => ?_)
        subst hv
        refine lv_iload hx hb d_Wi_forget_43 (lv_at hl 0 rfl) ?_
        refine lv_bipush (v := 32) hx hb d_Wi_forget_45 (by decide) ?_
        refine lv_idiv hx hb d_Wi_forget_47 (by decide) ?_
        refine lv_dup2_11 hx hb d_Wi_forget_48 rfl rfl ?_
        refine gw_iald M hK hI hB (by rw [e_x2]; exact wd_at hx0 (by rw [hij]; exact fg_1 hj hn hnj hlt hk)) d_Wi_forget_49 (fun x3 h_x3 => ?_)
        refine lv_iconst (v := 1) hx hb d_Wi_forget_50 (by decide) ?_
        refine lv_iload hx hb d_Wi_forget_51 (lv_at hl 0 rfl) ?_
        refine lv_bipush (v := 32) hx hb d_Wi_forget_53 (by decide) ?_
        refine lv_irem hx hb d_Wi_forget_55 (by decide) ?_
        refine lv_ishl hx hb d_Wi_forget_56 ?_
        refine lv_iconst (v := (-1)) hx hb d_Wi_forget_57 (by decide) ?_
        refine lv_ixor hx hb d_Wi_forget_58 ?_
        refine lv_iand hx hb d_Wi_forget_59 ?_
        refine lv_topi (fun x4 e_x4 => ?_)
        refine gw_iast M hK hI hB (by rw [e_x2]; exact wd_at hx0 (by rw [hij]; exact fg_1 hj hn hnj hlt hk)) trivial d_Wi_forget_60 (fun H locs hI => ?_)
        obtain ⟨x5, e_x5⟩ : ∃ ww9 : Int32, ww9 = y4 + 1 := ⟨_, rfl⟩
        refine lv_iinc (v := x5) (lv' := [(4, .int x5), (5, .int x2), (3, .int y3), (0, .ref a), (1, .long i0)]) hx hb d_Wi_forget_61 hl (k := 1) rfl (by rw [e_x5]; rfl) (by decide) rfl (fun ls hl => ?_)
        refine lv_goto (tgt := 19) hx hb d_Wi_forget_64 (by decide) ?_
        exact ih_19 (k + 1) y3 x5 _ _ _ hlt h3 (nb_s e_x5 hk) (z_m hm_19 hlt) hI (lv_sub hl [0, 2, 3, 4] rfl)
  exact L_19 _ 0 x1 0 _ _ _ (Nat.zero_le _) (e_x1.trans hst) rfl (Nat.lt_succ_self _) hI (lv_sub hl [0, 1, 2, 3] rfl)

abbrev rm_Wi_take : Room := { frames := 2, cells := 0, slots := 0, locals := 45 }
set_option maxHeartbeats 4000000 in
set_option maxRecDepth 100000 in
theorem c_Wi_take (l : Launch) {D : gw_D} {Hs : Heap} {G : gw_G} (i0 : Int64) (a bi : Nat) (hA : G a = some (kWj bi)) (hB : G bi = some (kA D 0 32 tT)) : Met l y_Wi_take (Cond.code y_Wi_take b_Wi_take 4 none :: tb) rm_Wi_take (gw_Pc D Hs G [.ref a, .long i0]) (gw_Qv D Hs (fun G1 => G1 = G)) 0 0 (gw_A Hs) := by
  refine gw_met (by decide) (Nat.le_of_ble_eq_true rfl) ?_
  intro p e s m args below meth c M hK hr hlo hin hI ls hl
  have hx := M.1
  have hb := M.2.1
  have hl : lv_has ls 4 [(0, .ref a), (1, .long i0)] := hl
  have hba : bi ≠ a := fun e9 => by
    have h9 := hA; rw [← e9, hB] at h9
    have h8 := congrFun (Option.some.inj h9) (.inr (4, [.ref bi, .int 1, .long 0]))
    have h7 : kWj bi (.inr (4, [.ref bi, .int 1, .long 0])) := ⟨1, 0, ⟨by decide, by decide⟩, by decide, rfl⟩
    rw [← h8] at h7; obtain ⟨f, -, h6⟩ := h7; cases h6
  refine lv_lload_n hx hb d_Wi_take_0 rfl (lv_at hl 1 rfl) ?_
  refine lv_lconst (v := 1) hx hb d_Wi_take_1 (by decide) ?_
  refine W.lcmp hx hb d_Wi_take_2 ?_
  refine lv_if_ge (tgt := 7) hx hb d_Wi_take_3 (by decide) (fun c_3 => ?_) (fun c_3 => ?_)
  · obtain ⟨e9, ⟨wd, tp, h_wd, h_tp, q9⟩, hP9⟩ := hI.1.opn hA
    subst q9
    have hI : gw_I D Hs (gw_up G a (kx (.inr (4, [.ref bi, .int wd, .long tp])))) s.heap _ _ := ⟨hP9, hI.2⟩
    obtain ⟨G4, hE_G4⟩ : ∃ z9, gw_up G a (kx (.inr (4, [.ref bi, .int wd, .long tp]))) = z9 := ⟨_, rfl⟩
    rw [hE_G4] at hI
    have hG6 : G4 a = some (kx (.inr (4, [.ref bi, .int wd, .long tp]))) := by rw [← hE_G4]; exact gw_up_s
    have hs5 : gw_fr (fun b => b = a) G G4 := by rw [← hE_G4]; exact gw_fr.up rfl
    refine lv_lload_n hx hb d_Wi_take_7 rfl (lv_at hl 1 rfl) ?_
    refine lv_aload_n hx hb d_Wi_take_8 rfl (lv_at hl 0 rfl) ?_
    refine gw_get M hK hI hG6 i_Wi rfl 2 (by decide) f_Wi_19 rfl (Pv := fun v => v = .long tp) (fun x hx => ⟨_, _, hx, rfl, rfl⟩) d_Wi_take_9 (fun v hv => ?_)
    subst hv
    refine W.lcmp hx hb d_Wi_take_12 ?_
    refine lv_if_le (tgt := 26) hx hb d_Wi_take_13 (by decide) (fun c_13 => ?_) (fun c_13 => ?_)
    · refine lv_lload_n hx hb d_Wi_take_26 rfl (lv_at hl 1 rfl) ?_
      refine lv_aload_n hx hb d_Wi_take_27 rfl (lv_at hl 0 rfl) ?_
      refine gw_get M hK hI hG6 i_Wi rfl 1 (by decide) f_Wi_15 rfl (Pv := fun v => v = .int wd) (fun x hx => ⟨_, _, hx, rfl, rfl⟩) d_Wi_take_28 (fun v hv => ?_)
      subst hv
      refine lv_i2l hx hb d_Wi_take_31 rfl ?_
      refine lv_lrem hx hb d_Wi_take_32 (wd_ne h_wd) ?_
      refine lv_l2i hx hb d_Wi_take_33 rfl ?_
      refine lv_topi (fun x7 e_x7 => ?_)
      refine lv_istore_n (lv' := [(3, .int x7), (0, .ref a), (1, .long i0)]) hx hb d_Wi_take_34 rfl hl (by decide) rfl (fun ls hl => ?_)
      refine lv_aload_n hx hb d_Wi_take_35 rfl (lv_at hl 1 rfl) ?_
      refine gw_get M hK hI hG6 i_Wi rfl 0 (by decide) f_Wi_9 rfl (Pv := fun v => v = .ref bi) (fun x hx => ⟨_, _, hx, rfl, rfl⟩) d_Wi_take_36 (fun v hv => ?_)
      subst hv
      refine lv_iload_n hx hb d_Wi_take_39 rfl (lv_at hl 0 rfl) ?_
      refine lv_bipush (v := 32) hx hb d_Wi_take_40 (by decide) ?_
      refine lv_idiv hx hb d_Wi_take_42 (by decide) ?_
      refine lv_dup2_11 hx hb d_Wi_take_43 rfl rfl ?_
      have hG8 : G4 bi = some (kA D 0 32 tT) := (hs5 bi _ hB hba)
      refine gw_iald M hK hI hG8 (by rw [e_x7]; exact wd_at h_wd (fun q9 => by have h9 := c_3; rw [lg_cmp_ge] at h9; exact absurd q9 (Int64.not_lt.mpr h9))) d_Wi_take_44 (fun x9 h_x9 => ?_)
      refine lv_iconst (v := 1) hx hb d_Wi_take_45 (by decide) ?_
      refine lv_iload_n hx hb d_Wi_take_46 rfl (lv_at hl 0 rfl) ?_
      refine lv_bipush (v := 32) hx hb d_Wi_take_47 (by decide) ?_
      refine lv_irem hx hb d_Wi_take_49 (by decide) ?_
      refine lv_ishl hx hb d_Wi_take_50 ?_
      refine lv_ior hx hb d_Wi_take_51 ?_
      refine lv_topi (fun x10 e_x10 => ?_)
      refine gw_iast M hK hI hG8 (by rw [e_x7]; exact wd_at h_wd (fun q9 => by have h9 := c_3; rw [lg_cmp_ge] at h9; exact absurd q9 (Int64.not_lt.mpr h9))) trivial d_Wi_take_52 (fun H locs hI => ?_)
      have hI : gw_I D Hs G s.heap _ _ := ⟨gw_P.close (a := a) (K' := (kx (.inr (4, [.ref bi, .int wd, .long tp])))) (by rw [← hE_G4] at hI; (try simp only [gw_up_up] at hI); exact hI.1) hA (fun e h => by obtain rfl := h; exact ⟨_, _, h_wd, h_tp, rfl⟩), hI.2⟩
      exact gw_vret M hr hlo hI d_Wi_take_53 rfl
    · refine lv_aload_n hx hb d_Wi_take_16 rfl (lv_at hl 0 rfl) ?_
      refine lv_lload_n hx hb d_Wi_take_17 rfl (lv_at hl 1 rfl) ?_
      have hG11 : G4 bi = some (kA D 0 32 tT) := (hs5 bi _ hB hba)
      refine gw_Vv (As := [.long i0]) (rest := []) M hK hI (c_Wi_forget l i0 tp wd h_wd h_tp (by have h9 := c_13; exact (Int64.not_le.mp (fun q9 => h9 ((lg_cmp_le _ _).mpr q9)))) a bi hG6 hG11) k_Wi_forget m_Wi_27 hG6 (ci := 4) rfl (fun x hx => ⟨_, hx⟩) rfl hl.1 rfl (Nat.le_of_ble_eq_true rfl) ⟨rfl, rfl, ⟨Nat.le_of_ble_eq_true rfl, Nat.le_of_ble_eq_true rfl⟩, ⟨Nat.le_of_ble_eq_true rfl, Nat.le_of_ble_eq_true rfl⟩⟩ d_Wi_take_18 (fun G9 H locs hw hI => ?_)
      rw [hw] at hI
      refine lv_aload_n hx hb d_Wi_take_21 rfl (lv_at hl 0 rfl) ?_
      refine lv_lload_n hx hb d_Wi_take_22 rfl (lv_at hl 1 rfl) ?_
      refine gw_put M hK hI hG6 i_Wi t_Wi tk_Wi n_Wi rfl 2 (by decide) f_Wi_19 rfl rfl rfl (kx (.inr (4, [.ref bi, .int wd, .long i0]))) (fun x hx => ⟨_, hx, Nat.le_of_ble_eq_true rfl, rfl⟩) d_Wi_take_23 (fun H locs hI => ?_)
      obtain ⟨G12, hE_G12⟩ : ∃ z9, gw_up G4 a (kx (.inr (4, [.ref bi, .int wd, .long i0]))) = z9 := ⟨_, rfl⟩
      rw [hE_G12] at hI
      have hG14 : G12 a = some (kx (.inr (4, [.ref bi, .int wd, .long i0]))) := by rw [← hE_G12]; exact gw_up_s
      have hs13 : gw_fr (fun b => b = a) G4 G12 := by rw [← hE_G12]; exact gw_fr.up rfl
      refine lv_lload_n hx hb d_Wi_take_26 rfl (lv_at hl 1 rfl) ?_
      refine lv_aload_n hx hb d_Wi_take_27 rfl (lv_at hl 0 rfl) ?_
      refine gw_get M hK hI hG14 i_Wi rfl 1 (by decide) f_Wi_15 rfl (Pv := fun v => v = .int wd) (fun x hx => ⟨_, _, hx, rfl, rfl⟩) d_Wi_take_28 (fun v hv => ?_)
      subst hv
      refine lv_i2l hx hb d_Wi_take_31 rfl ?_
      refine lv_lrem hx hb d_Wi_take_32 (wd_ne h_wd) ?_
      refine lv_l2i hx hb d_Wi_take_33 rfl ?_
      refine lv_topi (fun x15 e_x15 => ?_)
      refine lv_istore_n (lv' := [(3, .int x15), (0, .ref a), (1, .long i0)]) hx hb d_Wi_take_34 rfl hl (by decide) rfl (fun ls hl => ?_)
      refine lv_aload_n hx hb d_Wi_take_35 rfl (lv_at hl 1 rfl) ?_
      refine gw_get M hK hI hG14 i_Wi rfl 0 (by decide) f_Wi_9 rfl (Pv := fun v => v = .ref bi) (fun x hx => ⟨_, _, hx, rfl, rfl⟩) d_Wi_take_36 (fun v hv => ?_)
      subst hv
      refine lv_iload_n hx hb d_Wi_take_39 rfl (lv_at hl 0 rfl) ?_
      refine lv_bipush (v := 32) hx hb d_Wi_take_40 (by decide) ?_
      refine lv_idiv hx hb d_Wi_take_42 (by decide) ?_
      refine lv_dup2_11 hx hb d_Wi_take_43 rfl rfl ?_
      have hG16 : G12 bi = some (kA D 0 32 tT) := (hs13 bi _ hG11 hba)
      refine gw_iald M hK hI hG16 (by rw [e_x15]; exact wd_at h_wd (fun q9 => by have h9 := c_3; rw [lg_cmp_ge] at h9; exact absurd q9 (Int64.not_lt.mpr h9))) d_Wi_take_44 (fun x17 h_x17 => ?_)
      refine lv_iconst (v := 1) hx hb d_Wi_take_45 (by decide) ?_
      refine lv_iload_n hx hb d_Wi_take_46 rfl (lv_at hl 0 rfl) ?_
      refine lv_bipush (v := 32) hx hb d_Wi_take_47 (by decide) ?_
      refine lv_irem hx hb d_Wi_take_49 (by decide) ?_
      refine lv_ishl hx hb d_Wi_take_50 ?_
      refine lv_ior hx hb d_Wi_take_51 ?_
      refine lv_topi (fun x18 e_x18 => ?_)
      refine gw_iast M hK hI hG16 (by rw [e_x15]; exact wd_at h_wd (fun q9 => by have h9 := c_3; rw [lg_cmp_ge] at h9; exact absurd q9 (Int64.not_lt.mpr h9))) trivial d_Wi_take_52 (fun H locs hI => ?_)
      have hI : gw_I D Hs G s.heap _ _ := ⟨gw_P.close (a := a) (K' := (kx (.inr (4, [.ref bi, .int wd, .long i0])))) (by rw [← hE_G12, ← hE_G4] at hI; (try simp only [gw_up_up] at hI); exact hI.1) hA (fun e h => by obtain rfl := h; exact ⟨_, _, h_wd, (fun q9 => by have h9 := c_3; rw [lg_cmp_ge, Int64.le_iff_toInt_le] at h9; rw [Int64.lt_iff_toInt_lt] at q9; have e0 : (0 : Int64).toInt = 0 := rfl; have e1 : (1 : Int64).toInt = 1 := rfl; omega), rfl⟩), hI.2⟩
      exact gw_vret M hr hlo hI d_Wi_take_53 rfl
  · exact gw_vret M hr hlo hI d_Wi_take_6 rfl
