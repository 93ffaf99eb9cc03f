abbrev rm_Mo_bit : Room := { frames := 0, cells := 0, slots := 0, locals := 0 }
set_option maxHeartbeats 4000000 in
set_option maxRecDepth 100000 in
theorem c_Mo_bit (l : Launch) {D : gw_D} {Hs : Heap} {G : gw_G} (b : Nat) (P : Int32 → Prop) (a1 : Int32) (k : Nat) (hk : a1 = nI k) (hk1 : k < 128) (hB : G b = some (kA D 0 16 P)) : Met l y_Mo_bit (Cond.code y_Mo_bit b_Mo_bit 2 (some .int) :: tb) rm_Mo_bit (gw_Pc D Hs G [.ref b, .int a1]) (gw_Qi D Hs (fun _ G1 => G1 = G)) 0 0 (gw_A Hs) := by
  refine gw_met (by decide) (Nat.le_of_ble_eq_true rfl) ?_
  intro p e s m args below meth c M hK hr hlo hin hI ls hl
  have hx := M.1
  have hb := M.2.1
  have hl : lv_has ls 2 [(0, .ref b), (1, .int a1)] := hl
  refine lv_aload_n hx hb d_Mo_bit_0 rfl (lv_at hl 0 rfl) ?_
  refine lv_iload_n hx hb d_Mo_bit_1 rfl (lv_at hl 1 rfl) ?_
  refine lv_bipush (v := 8) hx hb d_Mo_bit_2 (by decide) ?_
  refine lv_idiv hx hb d_Mo_bit_4 (by decide) ?_
  refine gw_iald M hK hI hB (nb_in (nb_div hk 8) (by omega) (by decide)) d_Mo_bit_5 (fun x1 h_x1 => ?_)
  refine lv_bipush (v := 7) hx hb d_Mo_bit_6 (by decide) ?_
  refine lv_iload_n hx hb d_Mo_bit_8 rfl (lv_at hl 1 rfl) ?_
  refine lv_bipush (v := 8) hx hb d_Mo_bit_9 (by decide) ?_
  refine lv_irem hx hb d_Mo_bit_11 (by decide) ?_
  refine lv_isub hx hb d_Mo_bit_12 ?_
  refine lv_ishr hx hb d_Mo_bit_13 ?_
  refine lv_iconst (v := 1) hx hb d_Mo_bit_14 (by decide) ?_
  refine lv_iand hx hb d_Mo_bit_15 ?_
  exact gw_iret M hr hlo hI d_Mo_bit_16 rfl

abbrev rm_Mo_byteOf : Room := { frames := 0, cells := 0, slots := 0, locals := 0 }
set_option maxHeartbeats 4000000 in
set_option maxRecDepth 100000 in
theorem c_Mo_byteOf (l : Launch) {D : gw_D} {Hs : Heap} {G : gw_G} (v1 : Int64) (a2 : Int32) : Met l y_Mo_byteOf (Cond.code y_Mo_byteOf b_Mo_byteOf 3 (some .int) :: tb) rm_Mo_byteOf (gw_Pc D Hs G [.long v1, .int a2]) (gw_Qi D Hs (fun r G1 => by8 r ∧ G1 = G)) 0 0 (gw_A Hs) := by
  refine gw_met (by decide) (Nat.le_of_ble_eq_true rfl) ?_
  intro p e s m args below meth c M hK hr hlo hin hI ls hl
  have hx := M.1
  have hb := M.2.1
  have hl : lv_has ls 3 [(0, .long v1), (2, .int a2)] := hl
  refine lv_lload_n hx hb d_Mo_byteOf_0 rfl (lv_at hl 0 rfl) ?_
  refine lv_bipush (v := 56) hx hb d_Mo_byteOf_1 (by decide) ?_
  refine lv_bipush (v := 8) hx hb d_Mo_byteOf_3 (by decide) ?_
  refine lv_iload_n hx hb d_Mo_byteOf_5 rfl (lv_at hl 1 rfl) ?_
  refine lv_imul hx hb d_Mo_byteOf_6 ?_
  refine lv_isub hx hb d_Mo_byteOf_7 ?_
  refine lv_lshr hx hb d_Mo_byteOf_8 rfl ?_
  refine lv_ldc2 (v := 255) hx hb M.2.2.2.1 (M.2.2.2.2 _ o_Mo_98) d_Mo_byteOf_9 ?_
  refine lv_land hx hb d_Mo_byteOf_12 ?_
  refine lv_l2i hx hb d_Mo_byteOf_13 rfl ?_
  exact gw_iret M hr hlo hI d_Mo_byteOf_14 (⟨l255 _, rfl⟩)

abbrev rm_Mo_spreadKey : Room := { frames := 1, cells := 0, slots := 0, locals := 23 }
set_option maxHeartbeats 4000000 in
set_option maxRecDepth 100000 in
theorem c_Mo_spreadKey (l : Launch) {D : gw_D} {Hs : Heap} {G : gw_G} (o : Nat) (q : Nat → Nat) (B : Nat) (t0 : Int32) (f0 l0 g0 : Nat) (fu fn fx fi : Nat → Int32) (fl : Nat → Int64) (hM : mdl D G o q B t0 f0 l0 g0 fu fn fx fi fl) (a1 : Int32) (s1 : Nat) (ha1 : a1 = nI s1) (hs1 : s1 < 16) (kh kl : Int64) : Met l y_Mo_spreadKey (Cond.code y_Mo_spreadKey b_Mo_spreadKey 11 none :: tb) rm_Mo_spreadKey (gw_Pc D Hs G [.ref o, .int a1, .long kh, .long kl]) (gw_Qv D Hs (fun G1 => G1 = G)) 0 0 (gw_A Hs) := by
  refine gw_met (by decide) (Nat.le_of_ble_eq_true rfl) ?_
  intro p e s m args below meth c M hK hr hlo hin hI ls hl
  have hx := M.1
  have hb := M.2.1
  have hl : lv_has ls 11 [(0, .ref o), (1, .int a1), (2, .long kh), (4, .long kl)] := hl
  have hf : gw_fr (mown o q) G G := gw_fr.rf
  refine lv_sipush (v := 176) hx hb d_Mo_spreadKey_0 (by decide) ?_
  refine lv_iload_n hx hb d_Mo_spreadKey_3 rfl (lv_at hl 1 rfl) ?_
  refine lv_imul hx hb d_Mo_spreadKey_4 ?_
  refine lv_topi (fun x1 e_x1 => ?_)
  refine lv_istore (lv' := [(6, .int x1), (0, .ref o), (1, .int a1), (2, .long kh), (4, .long kl)]) hx hb d_Mo_spreadKey_5 hl (by decide) rfl (fun ls hl => ?_)
  have hy6 : x1 = nI (176 * s1) := by rw [e_x1]; exact nb_mul ha1 176
  obtain ⟨y6, hy6b⟩ : ∃ z, z = x1 := ⟨_, rfl⟩
  rw [← hy6b] at hl hy6
  refine lv_iconst (v := 0) hx hb d_Mo_spreadKey_7 (by decide) ?_
  refine lv_istore (lv' := [(7, .int 0), (6, .int y6), (0, .ref o), (1, .int a1), (2, .long kh), (4, .long kl)]) hx hb d_Mo_spreadKey_8 hl (by decide) rfl (fun ls hl => ?_)
  have L_10 : ∀ (n9 : Nat) (k : Nat) (y7 : Int32) (H : Heap) (locs : List Loc) (ls : Array Slot), k ≤ 16 → y7 = nI k → 16 - k < n9 → gw_I D Hs G s.heap H locs → lv_has ls 11 [(7, .int y7), (6, .int y6), (0, .ref o), (1, .int a1), (2, .long kh), (4, .long kl)] → W p l e rm_Mo_spreadKey s m args below meth c H locs 0 0 (MQ below (gw_Qv D Hs (fun G1 => G1 = G)) args s 0 0 (gw_A Hs)) (F0 m 10 ls []) := by
    intro n9
    induction n9 with
    | zero =>
      intro k y7 H locs ls bk hk hm hI hl
      exact absurd hm (Nat.not_lt_zero _)
    | succ n9 ih_10 =>
      intro k y7 H locs ls bk hk hm_10 hI hl
      refine lv_iload hx hb d_Mo_spreadKey_10 (lv_at hl 0 rfl) ?_
      refine lv_bipush (v := 16) hx hb d_Mo_spreadKey_12 (by decide) ?_
      refine lv_icmp_ge (tgt := 63) hx hb d_Mo_spreadKey_14 (by decide) (fun c_14 => ?_) (fun c_14 => ?_)
      · refine lv_iconst (v := 1) hx hb d_Mo_spreadKey_63 (by decide) ?_
        refine lv_istore (lv' := [(7, .int 1), (6, .int y6), (0, .ref o), (1, .int a1), (2, .long kh), (4, .long kl)]) hx hb d_Mo_spreadKey_64 hl (by decide) rfl (fun ls hl => ?_)
        refine lv_iconst (v := 4) hx hb d_Mo_spreadKey_66 (by decide) ?_
        refine lv_istore (lv' := [(8, .int 4), (7, .int 1), (6, .int y6), (0, .ref o), (1, .int a1), (2, .long kh), (4, .long kl)]) hx hb d_Mo_spreadKey_67 hl (by decide) rfl (fun ls hl => ?_)
        have L_69 : ∀ (n9 : Nat) (i : Nat) (y7 : Int32) (y8 : Int32) (H : Heap) (locs : List Loc) (ls : Array Slot), 4 ≤ i → i ≤ 44 → y8 = nI i → by8 y7 → 44 - i < n9 → gw_I D Hs G s.heap H locs → lv_has ls 11 [(8, .int y8), (7, .int y7), (6, .int y6), (0, .ref o), (1, .int a1), (2, .long kh), (4, .long kl)] → W p l e rm_Mo_spreadKey s m args below meth c H locs 0 0 (MQ below (gw_Qv D Hs (fun G1 => G1 = G)) args s 0 0 (gw_A Hs)) (F0 m 69 ls []) := by
          intro n9
          induction n9 with
          | zero =>
            intro i y7 y8 H locs ls hi4 bi hi hp hm hI hl
            exact absurd hm (Nat.not_lt_zero _)
          | succ n9 ih_69 =>
            intro i y7 y8 H locs ls hi4 bi hi hp hm_69 hI hl
            refine lv_iload hx hb d_Mo_spreadKey_69 (lv_at hl 0 rfl) ?_
            refine lv_bipush (v := 44) hx hb d_Mo_spreadKey_71 (by decide) ?_
            refine lv_icmp_ge (tgt := 223) hx hb d_Mo_spreadKey_73 (by decide) (fun c_73 => ?_) (fun c_73 => ?_)
            · exact gw_vret M hr hlo hI d_Mo_spreadKey_223 rfl
            · have li : i < 44 := nb_lt (n := 44) hi c_73 (by decide) (by omega)
              refine lv_iconst (v := 0) hx hb d_Mo_spreadKey_76 (by decide) ?_
              refine lv_istore (lv' := [(9, .int 0), (8, .int y8), (7, .int y7), (6, .int y6), (0, .ref o), (1, .int a1), (2, .long kh), (4, .long kl)]) hx hb d_Mo_spreadKey_77 hl (by decide) rfl (fun ls hl => ?_)
              have L_79 : ∀ (n9 : Nat) (j : Nat) (y9 : Int32) (H : Heap) (locs : List Loc) (ls : Array Slot), j ≤ 4 → y9 = nI j → 4 - j < n9 → gw_I D Hs G s.heap H locs → lv_has ls 11 [(9, .int y9), (8, .int y8), (7, .int y7), (6, .int y6), (0, .ref o), (1, .int a1), (2, .long kh), (4, .long kl)] → W p l e rm_Mo_spreadKey s m args below meth c H locs 0 0 (MQ below (gw_Qv D Hs (fun G1 => G1 = G)) args s 0 0 (gw_A Hs)) (F0 m 79 ls []) := by
                intro n9
                induction n9 with
                | zero =>
                  intro j y9 H locs ls bj hj hm hI hl
                  exact absurd hm (Nat.not_lt_zero _)
                | succ n9 ih_79 =>
                  intro j y9 H locs ls bj hj hm_79 hI hl
                  refine lv_iload hx hb d_Mo_spreadKey_79 (lv_at hl 0 rfl) ?_
                  refine lv_iconst (v := 4) hx hb d_Mo_spreadKey_81 (by decide) ?_
                  refine lv_icmp_ge (tgt := 197) hx hb d_Mo_spreadKey_82 (by decide) (fun c_82 => ?_) (fun c_82 => ?_)
                  · refine lv_iload hx hb d_Mo_spreadKey_197 (lv_at hl 1 rfl) ?_
                    refine lv_iconst (v := 4) hx hb d_Mo_spreadKey_199 (by decide) ?_
                    refine lv_irem hx hb d_Mo_spreadKey_200 (by decide) ?_
                    refine lv_if_ne (tgt := 213) hx hb d_Mo_spreadKey_201 (by decide) (fun c_201 => ?_) (fun c_201 => ?_)
                    · have hp2 := hp
                      refine lv_iload hx hb d_Mo_spreadKey_213 (lv_at hl 2 rfl) ?_
                      refine lv_istore (lv' := [(7, .int y7), (9, .int y9), (8, .int y8), (6, .int y6), (0, .ref o), (1, .int a1), (2, .long kh), (4, .long kl)]) hx hb d_Mo_spreadKey_215 hl (by decide) rfl (fun ls hl => ?_)
                      obtain ⟨x2, e_x2⟩ : ∃ ww9 : Int32, ww9 = y8 + 1 := ⟨_, rfl⟩
                      refine lv_iinc (v := x2) (lv' := [(8, .int x2), (7, .int y7), (9, .int y9), (6, .int y6), (0, .ref o), (1, .int a1), (2, .long kh), (4, .long kl)]) hx hb d_Mo_spreadKey_217 hl (k := 2) rfl (by rw [e_x2]; rfl) (by decide) rfl (fun ls hl => ?_)
                      refine lv_goto (tgt := 69) hx hb d_Mo_spreadKey_220 (by decide) ?_
                      exact ih_69 (i + 1) y7 x2 _ _ _ (by omega) (by omega) (nb_s e_x2 hi) hp2 (z_m hm_69 li) hI (lv_sub hl [0, 1, 3, 4, 5, 6, 7] rfl)
                    · refine lv_iload hx hb d_Mo_spreadKey_204 (lv_at hl 2 rfl) ?_
                      refine lv_iconst (v := 2) hx hb d_Mo_spreadKey_206 (by decide) ?_
                      have h_y7 := hp
                      refine gw_Si (As := [.int y7, .int 2]) (rest := []) M hK hI (c_Mo_times l y7 (2 : Int32)) k_Mo_times m_Mo_90 rfl hl.1 rfl (Nat.le_of_ble_eq_true rfl) ⟨rfl, rfl, ⟨Nat.le_of_ble_eq_true rfl, Nat.le_of_ble_eq_true rfl⟩, ⟨Nat.le_of_ble_eq_true rfl, Nat.le_of_ble_eq_true rfl⟩⟩ d_Mo_spreadKey_207 (fun x3 G9 H locs hw hI => ?_)
                      obtain ⟨h_x3, hw⟩ := hw
                      rw [hw] at hI
                      have h_x3 := h_x3 h_y7
                      have hp2 := h_x3
                      refine lv_goto (tgt := 215) hx hb d_Mo_spreadKey_210 (by decide) ?_
                      refine lv_istore (lv' := [(7, .int x3), (9, .int y9), (8, .int y8), (6, .int y6), (0, .ref o), (1, .int a1), (2, .long kh), (4, .long kl)]) hx hb d_Mo_spreadKey_215 hl (by decide) rfl (fun ls hl => ?_)
                      obtain ⟨x4, e_x4⟩ : ∃ ww9 : Int32, ww9 = y8 + 1 := ⟨_, rfl⟩
                      refine lv_iinc (v := x4) (lv' := [(8, .int x4), (7, .int x3), (9, .int y9), (6, .int y6), (0, .ref o), (1, .int a1), (2, .long kh), (4, .long kl)]) hx hb d_Mo_spreadKey_217 hl (k := 2) rfl (by rw [e_x4]; rfl) (by decide) rfl (fun ls hl => ?_)
                      refine lv_goto (tgt := 69) hx hb d_Mo_spreadKey_220 (by decide) ?_
                      exact ih_69 (i + 1) x3 x4 _ _ _ (by omega) (by omega) (nb_s e_x4 hi) hp2 (z_m hm_69 li) hI (lv_sub hl [0, 1, 3, 4, 5, 6, 7] rfl)
                  · have lj : j < 4 := nb_lt (n := 4) hj c_82 (by decide) (z_31 bj)
                    refine lv_aload_n hx hb d_Mo_spreadKey_85 rfl (lv_at hl 4 rfl) ?_
                    refine gw_get M hK hI hM.O i_Mo rfl 4 (by decide) f_Mo_20 rfl (Pv := fun v => v = .ref (q 4)) (fun x hx => ⟨_, _, hx, rfl, rfl⟩) d_Mo_spreadKey_86 (fun v hv => ?_)
                    subst hv
                    refine lv_iload hx hb d_Mo_spreadKey_89 (lv_at hl 3 rfl) ?_
                    refine lv_iconst (v := 4) hx hb d_Mo_spreadKey_91 (by decide) ?_
                    refine lv_iload hx hb d_Mo_spreadKey_92 (lv_at hl 1 rfl) ?_
                    refine lv_iconst (v := 1) hx hb d_Mo_spreadKey_94 (by decide) ?_
                    refine lv_isub hx hb d_Mo_spreadKey_95 ?_
                    refine lv_imul hx hb d_Mo_spreadKey_96 ?_
                    refine lv_iadd hx hb d_Mo_spreadKey_97 ?_
                    refine lv_iload hx hb d_Mo_spreadKey_98 (lv_at hl 0 rfl) ?_
                    refine lv_iadd hx hb d_Mo_spreadKey_100 ?_
                    refine gw_iald M hK hI hM.k4 (nb_in (nb_aa (nb_aa hy6 (nb_mul (nb_sub hi 1) 4)) hj) (by omega) (by decide)) d_Mo_spreadKey_101 (fun x5 h_x5 => ?_)
                    refine lv_istore (lv' := [(10, .int x5), (9, .int y9), (8, .int y8), (7, .int y7), (6, .int y6), (0, .ref o), (1, .int a1), (2, .long kh), (4, .long kl)]) hx hb d_Mo_spreadKey_102 hl (by decide) rfl (fun ls hl => ?_)
                    have J_156 : ∀ (j10 : Int32) (H : Heap) (locs : List Loc) (ls : Array Slot), by8 j10 → gw_I D Hs G s.heap H locs → lv_has ls 11 [(10, .int j10), (9, .int y9), (8, .int y8), (7, .int y7), (6, .int y6), (0, .ref o), (1, .int a1), (2, .long kh), (4, .long kl)] → W p l e rm_Mo_spreadKey s m args below meth c H locs 0 0 (MQ below (gw_Qv D Hs (fun G1 => G1 = G)) args s 0 0 (gw_A Hs)) (F0 m 156 ls []) := by
                      intro j10 H locs ls h_j10 hI hl
                      refine lv_aload_n hx hb d_Mo_spreadKey_156 rfl (lv_at hl 5 rfl) ?_
                      refine gw_get M hK hI hM.O i_Mo rfl 4 (by decide) f_Mo_20 rfl (Pv := fun v => v = .ref (q 4)) (fun x hx => ⟨_, _, hx, rfl, rfl⟩) d_Mo_spreadKey_157 (fun v hv => ?_)
                      subst hv
                      refine lv_iload hx hb d_Mo_spreadKey_160 (lv_at hl 4 rfl) ?_
                      refine lv_iconst (v := 4) hx hb d_Mo_spreadKey_162 (by decide) ?_
                      refine lv_iload hx hb d_Mo_spreadKey_163 (lv_at hl 2 rfl) ?_
                      refine lv_imul hx hb d_Mo_spreadKey_165 ?_
                      refine lv_iadd hx hb d_Mo_spreadKey_166 ?_
                      refine lv_iload hx hb d_Mo_spreadKey_167 (lv_at hl 1 rfl) ?_
                      refine lv_iadd hx hb d_Mo_spreadKey_169 ?_
                      refine lv_aload_n hx hb d_Mo_spreadKey_170 rfl (lv_at hl 5 rfl) ?_
                      refine gw_get M hK hI hM.O i_Mo rfl 4 (by decide) f_Mo_20 rfl (Pv := fun v => v = .ref (q 4)) (fun x hx => ⟨_, _, hx, rfl, rfl⟩) d_Mo_spreadKey_171 (fun v hv => ?_)
                      subst hv
                      refine lv_iload hx hb d_Mo_spreadKey_174 (lv_at hl 4 rfl) ?_
                      refine lv_iconst (v := 4) hx hb d_Mo_spreadKey_176 (by decide) ?_
                      refine lv_iload hx hb d_Mo_spreadKey_177 (lv_at hl 2 rfl) ?_
                      refine lv_iconst (v := 4) hx hb d_Mo_spreadKey_179 (by decide) ?_
                      refine lv_isub hx hb d_Mo_spreadKey_180 ?_
                      refine lv_imul hx hb d_Mo_spreadKey_181 ?_
                      refine lv_iadd hx hb d_Mo_spreadKey_182 ?_
                      refine lv_iload hx hb d_Mo_spreadKey_183 (lv_at hl 1 rfl) ?_
                      refine lv_iadd hx hb d_Mo_spreadKey_185 ?_
                      refine gw_iald M hK hI hM.k4 (nb_in (nb_aa (nb_aa hy6 (nb_mul (nb_sub hi 4) 4)) hj) (by omega) (by decide)) d_Mo_spreadKey_186 (fun x6 h_x6 => ?_)
                      refine lv_iload hx hb d_Mo_spreadKey_187 (lv_at hl 0 rfl) ?_
                      refine lv_ixor hx hb d_Mo_spreadKey_189 ?_
                      refine lv_topi (fun x7 e_x7 => ?_)
                      refine gw_iast M hK hI hM.k4 (nb_in (nb_aa (nb_aa hy6 (nb_mul hi 4)) hj) (by omega) (by decide)) (by rw [e_x7]; exact (by8_xor h_x6 h_j10)) d_Mo_spreadKey_190 (fun H locs hI => ?_)
                      obtain ⟨x8, e_x8⟩ : ∃ ww9 : Int32, ww9 = y9 + 1 := ⟨_, rfl⟩
                      refine lv_iinc (v := x8) (lv' := [(9, .int x8), (10, .int j10), (8, .int y8), (7, .int y7), (6, .int y6), (0, .ref o), (1, .int a1), (2, .long kh), (4, .long kl)]) hx hb d_Mo_spreadKey_191 hl (k := 1) rfl (by rw [e_x8]; rfl) (by decide) rfl (fun ls hl => ?_)
                      refine lv_goto (tgt := 79) hx hb d_Mo_spreadKey_194 (by decide) ?_
                      exact ih_79 (j + 1) x8 _ _ _ lj (nb_s e_x8 hj) (z_m hm_79 lj) hI (lv_sub hl [0, 2, 3, 4, 5, 6, 7, 8] rfl)
                    refine lv_iload hx hb d_Mo_spreadKey_104 (lv_at hl 2 rfl) ?_
                    refine lv_iconst (v := 4) hx hb d_Mo_spreadKey_106 (by decide) ?_
                    refine lv_irem hx hb d_Mo_spreadKey_107 (by decide) ?_
                    refine lv_if_ne (tgt := 156) hx hb d_Mo_spreadKey_108 (by decide) (fun c_108 => ?_) (fun c_108 => ?_)
                    · exact J_156 x5 _ _ _ h_x5 hI (lv_sub hl [0, 1, 2, 3, 4, 5, 6, 7, 8] rfl)
                    · refine lv_aload_n hx hb d_Mo_spreadKey_111 rfl (lv_at hl 5 rfl) ?_
                      refine gw_get M hK hI hM.O i_Mo rfl 1 (by decide) f_Mo_7 rfl (Pv := fun v => v = .ref (q 1)) (fun x hx => ⟨_, _, hx, rfl, rfl⟩) d_Mo_spreadKey_112 (fun v hv => ?_)
                      subst hv
                      refine lv_aload_n hx hb d_Mo_spreadKey_115 rfl (lv_at hl 5 rfl) ?_
                      refine gw_get M hK hI hM.O i_Mo rfl 4 (by decide) f_Mo_20 rfl (Pv := fun v => v = .ref (q 4)) (fun x hx => ⟨_, _, hx, rfl, rfl⟩) d_Mo_spreadKey_116 (fun v hv => ?_)
                      subst hv
                      refine lv_iload hx hb d_Mo_spreadKey_119 (lv_at hl 4 rfl) ?_
                      refine lv_iconst (v := 4) hx hb d_Mo_spreadKey_121 (by decide) ?_
                      refine lv_iload hx hb d_Mo_spreadKey_122 (lv_at hl 2 rfl) ?_
                      refine lv_iconst (v := 1) hx hb d_Mo_spreadKey_124 (by decide) ?_
                      refine lv_isub hx hb d_Mo_spreadKey_125 ?_
                      refine lv_imul hx hb d_Mo_spreadKey_126 ?_
                      refine lv_iadd hx hb d_Mo_spreadKey_127 ?_
                      refine lv_iload hx hb d_Mo_spreadKey_128 (lv_at hl 1 rfl) ?_
                      refine lv_iconst (v := 1) hx hb d_Mo_spreadKey_130 (by decide) ?_
                      refine lv_iadd hx hb d_Mo_spreadKey_131 ?_
                      refine lv_iconst (v := 4) hx hb d_Mo_spreadKey_132 (by decide) ?_
                      refine lv_irem hx hb d_Mo_spreadKey_133 (by decide) ?_
                      refine lv_iadd hx hb d_Mo_spreadKey_134 ?_
                      refine gw_iald M hK hI hM.k4 (nb_in (nb_aa (nb_aa hy6 (nb_mul (nb_sub hi 1) 4)) (nb_rem (nb_add hj 1) 4)) (by omega) (by decide)) d_Mo_spreadKey_135 (fun x9 h_x9 => ?_)
                      refine gw_iald M hK hI hM.k1 (by8_in h_x9) d_Mo_spreadKey_136 (fun x10 h_x10 => ?_)
                      refine lv_istore (lv' := [(10, .int x10), (9, .int y9), (8, .int y8), (7, .int y7), (6, .int y6), (0, .ref o), (1, .int a1), (2, .long kh), (4, .long kl)]) hx hb d_Mo_spreadKey_137 hl (by decide) rfl (fun ls hl => ?_)
                      refine lv_iload hx hb d_Mo_spreadKey_139 (lv_at hl 1 rfl) ?_
                      refine lv_if_ne (tgt := 152) hx hb d_Mo_spreadKey_141 (by decide) (fun c_141 => ?_) (fun c_141 => ?_)
                      · refine lv_iload hx hb d_Mo_spreadKey_152 (lv_at hl 0 rfl) ?_
                        refine lv_istore (lv' := [(10, .int x10), (9, .int y9), (8, .int y8), (7, .int y7), (6, .int y6), (0, .ref o), (1, .int a1), (2, .long kh), (4, .long kl)]) hx hb d_Mo_spreadKey_154 hl (by decide) rfl (fun ls hl => ?_)
                        exact J_156 x10 _ _ _ h_x10 hI (lv_sub hl [0, 1, 2, 3, 4, 5, 6, 7, 8] rfl)
                      · have h_y7 := hp
                        refine lv_iload hx hb d_Mo_spreadKey_144 (lv_at hl 0 rfl) ?_
                        refine lv_iload hx hb d_Mo_spreadKey_146 (lv_at hl 3 rfl) ?_
                        refine lv_ixor hx hb d_Mo_spreadKey_148 ?_
                        refine lv_goto (tgt := 154) hx hb d_Mo_spreadKey_149 (by decide) ?_
                        refine lv_topi (fun x11 e_x11 => ?_)
                        refine lv_istore (lv' := [(10, .int x11), (9, .int y9), (8, .int y8), (7, .int y7), (6, .int y6), (0, .ref o), (1, .int a1), (2, .long kh), (4, .long kl)]) hx hb d_Mo_spreadKey_154 hl (by decide) rfl (fun ls hl => ?_)
                        exact J_156 x11 _ _ _ (by rw [e_x11]; exact (by8_xor h_x10 h_y7)) hI (lv_sub hl [0, 1, 2, 3, 4, 5, 6, 7, 8] rfl)
              exact L_79 _ 0 0 _ _ _ (Nat.zero_le _) rfl (Nat.lt_succ_self _) hI (lv_sub hl [0, 1, 2, 3, 4, 5, 6, 7] rfl)
        exact L_69 _ 4 1 4 _ _ _ (by decide) (by decide) rfl (show uN 1 < 256 by decide) (Nat.lt_succ_self _) hI (lv_sub hl [0, 1, 2, 3, 4, 5, 6] rfl)
      · have lk : k < 16 := nb_lt (n := 16) hk c_14 (by decide) (z_31 bk)
        refine lv_aload_n hx hb d_Mo_spreadKey_17 rfl (lv_at hl 2 rfl) ?_
        refine gw_get M hK hI hM.O i_Mo rfl 4 (by decide) f_Mo_20 rfl (Pv := fun v => v = .ref (q 4)) (fun x hx => ⟨_, _, hx, rfl, rfl⟩) d_Mo_spreadKey_18 (fun v hv => ?_)
        subst hv
        refine lv_iload hx hb d_Mo_spreadKey_21 (lv_at hl 1 rfl) ?_
        refine lv_iload hx hb d_Mo_spreadKey_23 (lv_at hl 0 rfl) ?_
        refine lv_iadd hx hb d_Mo_spreadKey_25 ?_
        refine lv_iload hx hb d_Mo_spreadKey_26 (lv_at hl 0 rfl) ?_
        refine lv_bipush (v := 8) hx hb d_Mo_spreadKey_28 (by decide) ?_
        refine lv_icmp_ge (tgt := 37) hx hb d_Mo_spreadKey_30 (by decide) (fun c_30 => ?_) (fun c_30 => ?_)
        · refine lv_lload hx hb d_Mo_spreadKey_37 (lv_at hl 5 rfl) ?_
          refine lv_bipush (v := 56) hx hb d_Mo_spreadKey_39 (by decide) ?_
          refine lv_bipush (v := 8) hx hb d_Mo_spreadKey_41 (by decide) ?_
          refine lv_iload hx hb d_Mo_spreadKey_43 (lv_at hl 0 rfl) ?_
          refine lv_bipush (v := 8) hx hb d_Mo_spreadKey_45 (by decide) ?_
          refine lv_irem hx hb d_Mo_spreadKey_47 (by decide) ?_
          refine lv_imul hx hb d_Mo_spreadKey_48 ?_
          refine lv_isub hx hb d_Mo_spreadKey_49 ?_
          refine lv_lshr hx hb d_Mo_spreadKey_50 rfl ?_
          refine lv_ldc2 (v := 255) hx hb M.2.2.2.1 (M.2.2.2.2 _ o_Mo_98) d_Mo_spreadKey_51 ?_
          refine lv_land hx hb d_Mo_spreadKey_54 ?_
          refine lv_l2i hx hb d_Mo_spreadKey_55 rfl ?_
          refine lv_topi (fun x12 e_x12 => ?_)
          refine gw_iast M hK hI hM.k4 (nb_in (nb_aa hy6 hk) (by omega) (by decide)) (by rw [e_x12]; exact (l255 _)) d_Mo_spreadKey_56 (fun H locs hI => ?_)
          obtain ⟨x13, e_x13⟩ : ∃ ww9 : Int32, ww9 = y7 + 1 := ⟨_, rfl⟩
          refine lv_iinc (v := x13) (lv' := [(7, .int x13), (6, .int y6), (0, .ref o), (1, .int a1), (2, .long kh), (4, .long kl)]) hx hb d_Mo_spreadKey_57 hl (k := 0) rfl (by rw [e_x13]; rfl) (by decide) rfl (fun ls hl => ?_)
          refine lv_goto (tgt := 10) hx hb d_Mo_spreadKey_60 (by decide) ?_
          exact ih_10 (k + 1) x13 _ _ _ lk (nb_s e_x13 hk) (z_m hm_10 lk) hI (lv_sub hl [0, 1, 2, 3, 4, 5] rfl)
        · refine lv_lload_n hx hb d_Mo_spreadKey_33 rfl (lv_at hl 4 rfl) ?_
          refine lv_goto (tgt := 39) hx hb d_Mo_spreadKey_34 (by decide) ?_
          refine lv_bipush (v := 56) hx hb d_Mo_spreadKey_39 (by decide) ?_
          refine lv_bipush (v := 8) hx hb d_Mo_spreadKey_41 (by decide) ?_
          refine lv_iload hx hb d_Mo_spreadKey_43 (lv_at hl 0 rfl) ?_
          refine lv_bipush (v := 8) hx hb d_Mo_spreadKey_45 (by decide) ?_
          refine lv_irem hx hb d_Mo_spreadKey_47 (by decide) ?_
          refine lv_imul hx hb d_Mo_spreadKey_48 ?_
          refine lv_isub hx hb d_Mo_spreadKey_49 ?_
          refine lv_lshr hx hb d_Mo_spreadKey_50 rfl ?_
          refine lv_ldc2 (v := 255) hx hb M.2.2.2.1 (M.2.2.2.2 _ o_Mo_98) d_Mo_spreadKey_51 ?_
          refine lv_land hx hb d_Mo_spreadKey_54 ?_
          refine lv_l2i hx hb d_Mo_spreadKey_55 rfl ?_
          refine lv_topi (fun x14 e_x14 => ?_)
          refine gw_iast M hK hI hM.k4 (nb_in (nb_aa hy6 hk) (by omega) (by decide)) (by rw [e_x14]; exact (l255 _)) d_Mo_spreadKey_56 (fun H locs hI => ?_)
          obtain ⟨x15, e_x15⟩ : ∃ ww9 : Int32, ww9 = y7 + 1 := ⟨_, rfl⟩
          refine lv_iinc (v := x15) (lv' := [(7, .int x15), (6, .int y6), (0, .ref o), (1, .int a1), (2, .long kh), (4, .long kl)]) hx hb d_Mo_spreadKey_57 hl (k := 0) rfl (by rw [e_x15]; rfl) (by decide) rfl (fun ls hl => ?_)
          refine lv_goto (tgt := 10) hx hb d_Mo_spreadKey_60 (by decide) ?_
          exact ih_10 (k + 1) x15 _ _ _ lk (nb_s e_x15 hk) (z_m hm_10 lk) hI (lv_sub hl [0, 1, 2, 3, 4, 5] rfl)
  exact L_10 _ 0 0 _ _ _ (Nat.zero_le _) rfl (Nat.lt_succ_self _) hI (lv_sub hl [0, 1, 2, 3, 4, 5] rfl)

abbrev rm_Mo_addWords : Room := { frames := 0, cells := 0, slots := 0, locals := 0 }
set_option maxHeartbeats 4000000 in
set_option maxRecDepth 100000 in
theorem c_Mo_addWords (l : Launch) {D : gw_D} {Hs : Heap} {G : gw_G} (o : Nat) (q : Nat → Nat) (B : Nat) (t0 : Int32) (f0 l0 g0 : Nat) (fu fn fx fi : Nat → Int32) (fl : Nat → Int64) (hM : mdl D G o q B t0 f0 l0 g0 fu fn fx fi fl) (a1 : Int32) (s1 : Nat) (ha1 : a1 = nI s1) (hs1 : s1 < 16) (a2 : Int32) (r1 : Nat) (ha2 : a2 = nI r1) (hr1 : r1 ≤ 10) : Met l y_Mo_addWords (Cond.code y_Mo_addWords b_Mo_addWords 4 none :: tb) rm_Mo_addWords (gw_Pc D Hs G [.ref o, .int a1, .int a2]) (gw_Qv D Hs (fun G1 => G1 = G)) 0 0 (gw_A Hs) := by
  refine gw_met (by decide) (Nat.le_of_ble_eq_true rfl) ?_
  intro p e s m args below meth c M hK hr hlo hin hI ls hl
  have hx := M.1
  have hb := M.2.1
  have hl : lv_has ls 4 [(0, .ref o), (1, .int a1), (2, .int a2)] := hl
  have hf : gw_fr (mown o q) G G := gw_fr.rf
  refine lv_iconst (v := 0) hx hb d_Mo_addWords_0 (by decide) ?_
  refine lv_istore_n (lv' := [(3, .int 0), (0, .ref o), (1, .int a1), (2, .int a2)]) hx hb d_Mo_addWords_1 rfl hl (by decide) rfl (fun ls hl => ?_)
  have L_2 : ∀ (n9 : Nat) (k : Nat) (y3 : Int32) (H : Heap) (locs : List Loc) (ls : Array Slot), k ≤ 16 → y3 = nI k → 16 - k < n9 → gw_I D Hs G s.heap H locs → lv_has ls 4 [(3, .int y3), (0, .ref o), (1, .int a1), (2, .int a2)] → W p l e rm_Mo_addWords s m args below meth c H locs 0 0 (MQ below (gw_Qv D Hs (fun G1 => G1 = G)) args s 0 0 (gw_A Hs)) (F0 m 2 ls []) := by
    intro n9
    induction n9 with
    | zero =>
      intro k y3 H locs ls bk hk hm hI hl
      exact absurd hm (Nat.not_lt_zero _)
    | succ n9 ih_2 =>
      intro k y3 H locs ls bk hk hm_2 hI hl
      refine lv_iload_n hx hb d_Mo_addWords_2 rfl (lv_at hl 0 rfl) ?_
      refine lv_bipush (v := 16) hx hb d_Mo_addWords_3 (by decide) ?_
      refine lv_icmp_ge (tgt := 44) hx hb d_Mo_addWords_5 (by decide) (fun c_5 => ?_) (fun c_5 => ?_)
      · exact gw_vret M hr hlo hI d_Mo_addWords_44 rfl
      · have lk : k < 16 := nb_lt (n := 16) hk c_5 (by decide) (z_31 bk)
        refine lv_aload_n hx hb d_Mo_addWords_8 rfl (lv_at hl 1 rfl) ?_
        refine gw_get M hK hI hM.O i_Mo rfl 24 (by decide) f_Mo_72 rfl (Pv := fun v => v = .ref (q 24)) (fun x hx => ⟨_, _, hx, rfl, rfl⟩) d_Mo_addWords_9 (fun v hv => ?_)
        subst hv
        refine lv_iload_n hx hb d_Mo_addWords_12 rfl (lv_at hl 0 rfl) ?_
        refine lv_aload_n hx hb d_Mo_addWords_13 rfl (lv_at hl 1 rfl) ?_
        refine gw_get M hK hI hM.O i_Mo rfl 24 (by decide) f_Mo_72 rfl (Pv := fun v => v = .ref (q 24)) (fun x hx => ⟨_, _, hx, rfl, rfl⟩) d_Mo_addWords_14 (fun v hv => ?_)
        subst hv
        refine lv_iload_n hx hb d_Mo_addWords_17 rfl (lv_at hl 0 rfl) ?_
        refine gw_iald M hK hI hM.k24 (nb_in hk lk) d_Mo_addWords_18 (fun x1 h_x1 => ?_)
        refine lv_aload_n hx hb d_Mo_addWords_19 rfl (lv_at hl 1 rfl) ?_
        refine gw_get M hK hI hM.O i_Mo rfl 4 (by decide) f_Mo_20 rfl (Pv := fun v => v = .ref (q 4)) (fun x hx => ⟨_, _, hx, rfl, rfl⟩) d_Mo_addWords_20 (fun v hv => ?_)
        subst hv
        refine lv_sipush (v := 176) hx hb d_Mo_addWords_23 (by decide) ?_
        refine lv_iload_n hx hb d_Mo_addWords_26 rfl (lv_at hl 2 rfl) ?_
        refine lv_imul hx hb d_Mo_addWords_27 ?_
        refine lv_bipush (v := 16) hx hb d_Mo_addWords_28 (by decide) ?_
        refine lv_iload_n hx hb d_Mo_addWords_30 rfl (lv_at hl 3 rfl) ?_
        refine lv_imul hx hb d_Mo_addWords_31 ?_
        refine lv_iadd hx hb d_Mo_addWords_32 ?_
        refine lv_iload_n hx hb d_Mo_addWords_33 rfl (lv_at hl 0 rfl) ?_
        refine lv_iadd hx hb d_Mo_addWords_34 ?_
        refine gw_iald M hK hI hM.k4 (nb_in (nb_aa (nb_aa (nb_mul ha1 176) (nb_mul ha2 16)) hk) (by omega) (by decide)) d_Mo_addWords_35 (fun x2 h_x2 => ?_)
        refine lv_ixor hx hb d_Mo_addWords_36 ?_
        refine lv_topi (fun x3 e_x3 => ?_)
        refine gw_iast M hK hI hM.k24 (nb_in hk lk) (by rw [e_x3]; exact (by8_xor h_x1 h_x2)) d_Mo_addWords_37 (fun H locs hI => ?_)
        obtain ⟨x4, e_x4⟩ : ∃ ww9 : Int32, ww9 = y3 + 1 := ⟨_, rfl⟩
        refine lv_iinc (v := x4) (lv' := [(3, .int x4), (0, .ref o), (1, .int a1), (2, .int a2)]) hx hb d_Mo_addWords_38 hl (k := 0) rfl (by rw [e_x4]; rfl) (by decide) rfl (fun ls hl => ?_)
        refine lv_goto (tgt := 2) hx hb d_Mo_addWords_41 (by decide) ?_
        exact ih_2 (k + 1) x4 _ _ _ lk (nb_s e_x4 hk) (z_m hm_2 lk) hI (lv_sub hl [0, 1, 2, 3] rfl)
  exact L_2 _ 0 0 _ _ _ (Nat.zero_le _) rfl (Nat.lt_succ_self _) hI (lv_sub hl [0, 1, 2, 3] rfl)

abbrev rm_Mo_round : Room := { frames := 1, cells := 0, slots := 0, locals := 23 }
set_option maxHeartbeats 4000000 in
set_option maxRecDepth 100000 in
theorem c_Mo_round (l : Launch) {D : gw_D} {Hs : Heap} {G : gw_G} (o : Nat) (q : Nat → Nat) (B : Nat) (t0 : Int32) (f0 l0 g0 : Nat) (fu fn fx fi : Nat → Int32) (fl : Nat → Int64) (hM : mdl D G o q B t0 f0 l0 g0 fu fn fx fi fl) (z1 : Int32) : Met l y_Mo_round (Cond.code y_Mo_round b_Mo_round 7 none :: tb) rm_Mo_round (gw_Pc D Hs G [.ref o, .int z1]) (gw_Qv D Hs (fun G1 => G1 = G)) 0 0 (gw_A Hs) := by
  refine gw_met (by decide) (Nat.le_of_ble_eq_true rfl) ?_
  intro p e s m args below meth c M hK hr hlo hin hI ls hl
  have hx := M.1
  have hb := M.2.1
  have hl : lv_has ls 7 [(0, .ref o), (1, .int z1)] := hl
  have hf : gw_fr (mown o q) G G := gw_fr.rf
  refine lv_iconst (v := 0) hx hb d_Mo_round_0 (by decide) ?_
  refine lv_istore_n (lv' := [(2, .int 0), (0, .ref o), (1, .int z1)]) hx hb d_Mo_round_1 rfl hl (by decide) rfl (fun ls hl => ?_)
  have L_2 : ∀ (n9 : Nat) (k : Nat) (y2 : Int32) (H : Heap) (locs : List Loc) (ls : Array Slot), k ≤ 4 → y2 = nI k → 4 - k < n9 → gw_I D Hs G s.heap H locs → lv_has ls 7 [(2, .int y2), (0, .ref o), (1, .int z1)] → W p l e rm_Mo_round s m args below meth c H locs 0 0 (MQ below (gw_Qv D Hs (fun G1 => G1 = G)) args s 0 0 (gw_A Hs)) (F0 m 2 ls []) := by
    intro n9
    induction n9 with
    | zero =>
      intro k y2 H locs ls bk hk hm hI hl
      exact absurd hm (Nat.not_lt_zero _)
    | succ n9 ih_2 =>
      intro k y2 H locs ls bk hk hm_2 hI hl
      refine lv_iload_n hx hb d_Mo_round_2 rfl (lv_at hl 0 rfl) ?_
      refine lv_iconst (v := 4) hx hb d_Mo_round_3 (by decide) ?_
      refine lv_icmp_ge (tgt := 55) hx hb d_Mo_round_4 (by decide) (fun c_4 => ?_) (fun c_4 => ?_)
      · refine lv_iconst (v := 0) hx hb d_Mo_round_55 (by decide) ?_
        refine lv_istore_n (lv' := [(2, .int 0), (0, .ref o), (1, .int z1)]) hx hb d_Mo_round_56 rfl hl (by decide) rfl (fun ls hl => ?_)
        have L_57 : ∀ (n9 : Nat) (i : Nat) (y2 : Int32) (H : Heap) (locs : List Loc) (ls : Array Slot), i ≤ 16 → y2 = nI i → 16 - i < n9 → gw_I D Hs G s.heap H locs → lv_has ls 7 [(2, .int y2), (0, .ref o), (1, .int z1)] → W p l e rm_Mo_round s m args below meth c H locs 0 0 (MQ below (gw_Qv D Hs (fun G1 => G1 = G)) args s 0 0 (gw_A Hs)) (F0 m 57 ls []) := by
          intro n9
          induction n9 with
          | zero =>
            intro i y2 H locs ls bi hi hm hI hl
            exact absurd hm (Nat.not_lt_zero _)
          | succ n9 ih_57 =>
            intro i y2 H locs ls bi hi hm_57 hI hl
            refine lv_iload_n hx hb d_Mo_round_57 rfl (lv_at hl 0 rfl) ?_
            refine lv_bipush (v := 16) hx hb d_Mo_round_58 (by decide) ?_
            refine lv_icmp_ge (tgt := 163) hx hb d_Mo_round_60 (by decide) (fun c_60 => ?_) (fun c_60 => ?_)
            · exact gw_vret M hr hlo hI d_Mo_round_163 rfl
            · have li : i < 16 := nb_lt (n := 16) hi c_60 (by decide) (z_31 bi)
              refine lv_iload_n hx hb d_Mo_round_63 rfl (lv_at hl 0 rfl) ?_
              refine lv_iload_n hx hb d_Mo_round_64 rfl (lv_at hl 0 rfl) ?_
              refine lv_iconst (v := 4) hx hb d_Mo_round_65 (by decide) ?_
              refine lv_irem hx hb d_Mo_round_66 (by decide) ?_
              refine lv_isub hx hb d_Mo_round_67 ?_
              refine lv_topi (fun x1 e_x1 => ?_)
              refine lv_istore_n (lv' := [(3, .int x1), (2, .int y2), (0, .ref o), (1, .int z1)]) hx hb d_Mo_round_68 rfl hl (by decide) rfl (fun ls hl => ?_)
              have hat : x1 = nI (i - i % 4) := by rw [e_x1]; exact nb_ss hi (nb_rem hi 4) (by omega)
              refine lv_iload_n hx hb d_Mo_round_69 rfl (lv_at hl 1 rfl) ?_
              refine lv_iconst (v := 4) hx hb d_Mo_round_70 (by decide) ?_
              refine lv_irem hx hb d_Mo_round_71 (by decide) ?_
              refine lv_topi (fun x2 e_x2 => ?_)
              refine lv_istore (lv' := [(4, .int x2), (3, .int x1), (2, .int y2), (0, .ref o), (1, .int z1)]) hx hb d_Mo_round_72 hl (by decide) rfl (fun ls hl => ?_)
              have hkk : x2 = nI (i % 4) := by rw [e_x2]; exact nb_rem hi 4
              refine lv_aload_n hx hb d_Mo_round_74 rfl (lv_at hl 3 rfl) ?_
              refine gw_get M hK hI hM.O i_Mo rfl 25 (by decide) f_Mo_75 rfl (Pv := fun v => v = .ref (q 25)) (fun x hx => ⟨_, _, hx, rfl, rfl⟩) d_Mo_round_75 (fun v hv => ?_)
              subst hv
              refine lv_iload_n hx hb d_Mo_round_78 rfl (lv_at hl 1 rfl) ?_
              refine lv_iload hx hb d_Mo_round_79 (lv_at hl 0 rfl) ?_
              refine lv_iconst (v := 1) hx hb d_Mo_round_81 (by decide) ?_
              refine lv_iadd hx hb d_Mo_round_82 ?_
              refine lv_iconst (v := 4) hx hb d_Mo_round_83 (by decide) ?_
              refine lv_irem hx hb d_Mo_round_84 (by decide) ?_
              refine lv_iadd hx hb d_Mo_round_85 ?_
              refine gw_iald M hK hI hM.k25 (nb_in (nb_aa hat (nb_rem (nb_add hkk 1) 4)) (by omega) (by decide)) d_Mo_round_86 (fun x3 h_x3 => ?_)
              refine lv_istore (lv' := [(5, .int x3), (4, .int x2), (3, .int x1), (2, .int y2), (0, .ref o), (1, .int z1)]) hx hb d_Mo_round_87 hl (by decide) rfl (fun ls hl => ?_)
              refine lv_aload_n hx hb d_Mo_round_89 rfl (lv_at hl 4 rfl) ?_
              refine gw_get M hK hI hM.O i_Mo rfl 25 (by decide) f_Mo_75 rfl (Pv := fun v => v = .ref (q 25)) (fun x hx => ⟨_, _, hx, rfl, rfl⟩) d_Mo_round_90 (fun v hv => ?_)
              subst hv
              refine lv_iload_n hx hb d_Mo_round_93 rfl (lv_at hl 2 rfl) ?_
              refine lv_iload hx hb d_Mo_round_94 (lv_at hl 1 rfl) ?_
              refine lv_iconst (v := 2) hx hb d_Mo_round_96 (by decide) ?_
              refine lv_iadd hx hb d_Mo_round_97 ?_
              refine lv_iconst (v := 4) hx hb d_Mo_round_98 (by decide) ?_
              refine lv_irem hx hb d_Mo_round_99 (by decide) ?_
              refine lv_iadd hx hb d_Mo_round_100 ?_
              refine gw_iald M hK hI hM.k25 (nb_in (nb_aa hat (nb_rem (nb_add hkk 2) 4)) (by omega) (by decide)) d_Mo_round_101 (fun x4 h_x4 => ?_)
              refine lv_aload_n hx hb d_Mo_round_102 rfl (lv_at hl 4 rfl) ?_
              refine gw_get M hK hI hM.O i_Mo rfl 25 (by decide) f_Mo_75 rfl (Pv := fun v => v = .ref (q 25)) (fun x hx => ⟨_, _, hx, rfl, rfl⟩) d_Mo_round_103 (fun v hv => ?_)
              subst hv
              refine lv_iload_n hx hb d_Mo_round_106 rfl (lv_at hl 2 rfl) ?_
              refine lv_iload hx hb d_Mo_round_107 (lv_at hl 1 rfl) ?_
              refine lv_iconst (v := 3) hx hb d_Mo_round_109 (by decide) ?_
              refine lv_iadd hx hb d_Mo_round_110 ?_
              refine lv_iconst (v := 4) hx hb d_Mo_round_111 (by decide) ?_
              refine lv_irem hx hb d_Mo_round_112 (by decide) ?_
              refine lv_iadd hx hb d_Mo_round_113 ?_
              refine gw_iald M hK hI hM.k25 (nb_in (nb_aa hat (nb_rem (nb_add hkk 3) 4)) (by omega) (by decide)) d_Mo_round_114 (fun x5 h_x5 => ?_)
              refine lv_ixor hx hb d_Mo_round_115 ?_
              refine lv_topi (fun x6 e_x6 => ?_)
              refine lv_istore (lv' := [(6, .int x6), (5, .int x3), (4, .int x2), (3, .int x1), (2, .int y2), (0, .ref o), (1, .int z1)]) hx hb d_Mo_round_116 hl (by decide) rfl (fun ls hl => ?_)
              refine lv_aload_n hx hb d_Mo_round_118 rfl (lv_at hl 5 rfl) ?_
              refine gw_get M hK hI hM.O i_Mo rfl 24 (by decide) f_Mo_72 rfl (Pv := fun v => v = .ref (q 24)) (fun x hx => ⟨_, _, hx, rfl, rfl⟩) d_Mo_round_119 (fun v hv => ?_)
              subst hv
              refine lv_iload_n hx hb d_Mo_round_122 rfl (lv_at hl 4 rfl) ?_
              refine lv_iload_n hx hb d_Mo_round_123 rfl (lv_at hl 6 rfl) ?_
              have J_156 : ∀ (j156 : Int32) (H : Heap) (locs : List Loc) (ls : Array Slot), by8 j156 → gw_I D Hs G s.heap H locs → lv_has ls 7 [(6, .int x6), (5, .int x3), (4, .int x2), (3, .int x1), (2, .int y2), (0, .ref o), (1, .int z1)] → W p l e rm_Mo_round s m args below meth c H locs 0 0 (MQ below (gw_Qv D Hs (fun G1 => G1 = G)) args s 0 0 (gw_A Hs)) (F0 m 156 ls [.int j156, .int y2, .ref (q 24)]) := by
                intro j156 H locs ls h_j156 hI hl
                refine gw_iast M hK hI hM.k24 (nb_in hi li) h_j156 d_Mo_round_156 (fun H locs hI => ?_)
                obtain ⟨x7, e_x7⟩ : ∃ ww9 : Int32, ww9 = y2 + 1 := ⟨_, rfl⟩
                refine lv_iinc (v := x7) (lv' := [(2, .int x7), (6, .int x6), (5, .int x3), (4, .int x2), (3, .int x1), (0, .ref o), (1, .int z1)]) hx hb d_Mo_round_157 hl (k := 4) rfl (by rw [e_x7]; rfl) (by decide) rfl (fun ls hl => ?_)
                refine lv_goto (tgt := 57) hx hb d_Mo_round_160 (by decide) ?_
                exact ih_57 (i + 1) x7 _ _ _ li (nb_s e_x7 hi) (z_m hm_57 li) hI (lv_sub hl [0, 5, 6] rfl)
              refine lv_if_eq (tgt := 150) hx hb d_Mo_round_124 (by decide) (fun c_124 => ?_) (fun c_124 => ?_)
              · refine lv_aload_n hx hb d_Mo_round_150 rfl (lv_at hl 5 rfl) ?_
                refine gw_get M hK hI hM.O i_Mo rfl 25 (by decide) f_Mo_75 rfl (Pv := fun v => v = .ref (q 25)) (fun x hx => ⟨_, _, hx, rfl, rfl⟩) d_Mo_round_151 (fun v hv => ?_)
                subst hv
                refine lv_iload_n hx hb d_Mo_round_154 rfl (lv_at hl 4 rfl) ?_
                refine gw_iald M hK hI hM.k25 (nb_in hi li) d_Mo_round_155 (fun x8 h_x8 => ?_)
                exact J_156 x8 _ _ _ h_x8 hI (lv_sub hl [0, 1, 2, 3, 4, 5, 6] rfl)
              · refine lv_aload_n hx hb d_Mo_round_127 rfl (lv_at hl 5 rfl) ?_
                refine gw_get M hK hI hM.O i_Mo rfl 25 (by decide) f_Mo_75 rfl (Pv := fun v => v = .ref (q 25)) (fun x hx => ⟨_, _, hx, rfl, rfl⟩) d_Mo_round_128 (fun v hv => ?_)
                subst hv
                refine lv_iload_n hx hb d_Mo_round_131 rfl (lv_at hl 4 rfl) ?_
                refine gw_iald M hK hI hM.k25 (nb_in hi li) d_Mo_round_132 (fun x9 h_x9 => ?_)
                refine lv_iconst (v := 2) hx hb d_Mo_round_133 (by decide) ?_
                refine gw_Si (As := [.int x9, .int 2]) (rest := [.int y2, .ref (q 24)]) M hK hI (c_Mo_times l x9 (2 : Int32)) k_Mo_times m_Mo_90 rfl hl.1 rfl (Nat.le_of_ble_eq_true rfl) ⟨rfl, rfl, ⟨Nat.le_of_ble_eq_true rfl, Nat.le_of_ble_eq_true rfl⟩, ⟨Nat.le_of_ble_eq_true rfl, Nat.le_of_ble_eq_true rfl⟩⟩ d_Mo_round_134 (fun x10 G9 H locs hw hI => ?_)
                obtain ⟨h_x10, hw⟩ := hw
                rw [hw] at hI
                have h_x10 := h_x10 h_x9
                refine lv_iload hx hb d_Mo_round_137 (lv_at hl 1 rfl) ?_
                refine lv_iconst (v := 3) hx hb d_Mo_round_139 (by decide) ?_
                refine gw_Si (As := [.int x3, .int 3]) (rest := [.int x10, .int y2, .ref (q 24)]) M hK hI (c_Mo_times l x3 (3 : Int32)) k_Mo_times m_Mo_90 rfl hl.1 rfl (Nat.le_of_ble_eq_true rfl) ⟨rfl, rfl, ⟨Nat.le_of_ble_eq_true rfl, Nat.le_of_ble_eq_true rfl⟩, ⟨Nat.le_of_ble_eq_true rfl, Nat.le_of_ble_eq_true rfl⟩⟩ d_Mo_round_140 (fun x11 G9 H locs hw hI => ?_)
                obtain ⟨h_x11, hw⟩ := hw
                rw [hw] at hI
                have h_x11 := h_x11 h_x3
                refine lv_ixor hx hb d_Mo_round_143 ?_
                refine lv_iload hx hb d_Mo_round_144 (lv_at hl 0 rfl) ?_
                refine lv_ixor hx hb d_Mo_round_146 ?_
                refine lv_goto (tgt := 156) hx hb d_Mo_round_147 (by decide) ?_
                exact J_156 ((x10 ^^^ x11) ^^^ x6) _ _ _ (by8_xor (by8_xor h_x10 h_x11) (by rw [e_x6]; exact (by8_xor h_x4 h_x5))) hI (lv_sub hl [0, 1, 2, 3, 4, 5, 6] rfl)
        exact L_57 _ 0 0 _ _ _ (Nat.zero_le _) rfl (Nat.lt_succ_self _) hI (lv_sub hl [0, 1, 2] rfl)
      · have lk : k < 4 := nb_lt (n := 4) hk c_4 (by decide) (z_31 bk)
        refine lv_iconst (v := 0) hx hb d_Mo_round_7 (by decide) ?_
        refine lv_istore_n (lv' := [(3, .int 0), (2, .int y2), (0, .ref o), (1, .int z1)]) hx hb d_Mo_round_8 rfl hl (by decide) rfl (fun ls hl => ?_)
        have L_9 : ∀ (n9 : Nat) (j : Nat) (y3 : Int32) (H : Heap) (locs : List Loc) (ls : Array Slot), j ≤ 4 → y3 = nI j → 4 - j < n9 → gw_I D Hs G s.heap H locs → lv_has ls 7 [(3, .int y3), (2, .int y2), (0, .ref o), (1, .int z1)] → W p l e rm_Mo_round s m args below meth c H locs 0 0 (MQ below (gw_Qv D Hs (fun G1 => G1 = G)) args s 0 0 (gw_A Hs)) (F0 m 9 ls []) := by
          intro n9
          induction n9 with
          | zero =>
            intro j y3 H locs ls bj hj hm hI hl
            exact absurd hm (Nat.not_lt_zero _)
          | succ n9 ih_9 =>
            intro j y3 H locs ls bj hj hm_9 hI hl
            refine lv_iload_n hx hb d_Mo_round_9 rfl (lv_at hl 0 rfl) ?_
            refine lv_iconst (v := 4) hx hb d_Mo_round_10 (by decide) ?_
            refine lv_icmp_ge (tgt := 49) hx hb d_Mo_round_11 (by decide) (fun c_11 => ?_) (fun c_11 => ?_)
            · obtain ⟨x12, e_x12⟩ : ∃ ww9 : Int32, ww9 = y2 + 1 := ⟨_, rfl⟩
              refine lv_iinc (v := x12) (lv' := [(2, .int x12), (3, .int y3), (0, .ref o), (1, .int z1)]) hx hb d_Mo_round_49 hl (k := 1) rfl (by rw [e_x12]; rfl) (by decide) rfl (fun ls hl => ?_)
              refine lv_goto (tgt := 2) hx hb d_Mo_round_52 (by decide) ?_
              exact ih_2 (k + 1) x12 _ _ _ lk (nb_s e_x12 hk) (z_m hm_2 lk) hI (lv_sub hl [0, 2, 3] rfl)
            · have lj : j < 4 := nb_lt (n := 4) hj c_11 (by decide) (z_31 bj)
              refine lv_aload_n hx hb d_Mo_round_14 rfl (lv_at hl 2 rfl) ?_
              refine gw_get M hK hI hM.O i_Mo rfl 25 (by decide) f_Mo_75 rfl (Pv := fun v => v = .ref (q 25)) (fun x hx => ⟨_, _, hx, rfl, rfl⟩) d_Mo_round_15 (fun v hv => ?_)
              subst hv
              refine lv_iconst (v := 4) hx hb d_Mo_round_18 (by decide) ?_
              refine lv_iload_n hx hb d_Mo_round_19 rfl (lv_at hl 1 rfl) ?_
              refine lv_imul hx hb d_Mo_round_20 ?_
              refine lv_iload_n hx hb d_Mo_round_21 rfl (lv_at hl 0 rfl) ?_
              refine lv_iadd hx hb d_Mo_round_22 ?_
              refine lv_aload_n hx hb d_Mo_round_23 rfl (lv_at hl 2 rfl) ?_
              refine gw_get M hK hI hM.O i_Mo rfl 1 (by decide) f_Mo_7 rfl (Pv := fun v => v = .ref (q 1)) (fun x hx => ⟨_, _, hx, rfl, rfl⟩) d_Mo_round_24 (fun v hv => ?_)
              subst hv
              refine lv_aload_n hx hb d_Mo_round_27 rfl (lv_at hl 2 rfl) ?_
              refine gw_get M hK hI hM.O i_Mo rfl 24 (by decide) f_Mo_72 rfl (Pv := fun v => v = .ref (q 24)) (fun x hx => ⟨_, _, hx, rfl, rfl⟩) d_Mo_round_28 (fun v hv => ?_)
              subst hv
              refine lv_iconst (v := 4) hx hb d_Mo_round_31 (by decide) ?_
              refine lv_iload_n hx hb d_Mo_round_32 rfl (lv_at hl 1 rfl) ?_
              refine lv_iload_n hx hb d_Mo_round_33 rfl (lv_at hl 0 rfl) ?_
              refine lv_iadd hx hb d_Mo_round_34 ?_
              refine lv_iconst (v := 4) hx hb d_Mo_round_35 (by decide) ?_
              refine lv_irem hx hb d_Mo_round_36 (by decide) ?_
              refine lv_imul hx hb d_Mo_round_37 ?_
              refine lv_iload_n hx hb d_Mo_round_38 rfl (lv_at hl 0 rfl) ?_
              refine lv_iadd hx hb d_Mo_round_39 ?_
              refine gw_iald M hK hI hM.k24 (nb_in (nb_aa (nb_mul (nb_rem (nb_aa hk hj) 4) 4) hj) (by omega) (by decide)) d_Mo_round_40 (fun x13 h_x13 => ?_)
              refine gw_iald M hK hI hM.k1 (by8_in h_x13) d_Mo_round_41 (fun x14 h_x14 => ?_)
              refine gw_iast M hK hI hM.k25 (nb_in (nb_aa (nb_mul hk 4) hj) (by omega) (by decide)) h_x14 d_Mo_round_42 (fun H locs hI => ?_)
              obtain ⟨x15, e_x15⟩ : ∃ ww9 : Int32, ww9 = y3 + 1 := ⟨_, rfl⟩
              refine lv_iinc (v := x15) (lv' := [(3, .int x15), (2, .int y2), (0, .ref o), (1, .int z1)]) hx hb d_Mo_round_43 hl (k := 0) rfl (by rw [e_x15]; rfl) (by decide) rfl (fun ls hl => ?_)
              refine lv_goto (tgt := 9) hx hb d_Mo_round_46 (by decide) ?_
              exact ih_9 (j + 1) x15 _ _ _ lj (nb_s e_x15 hj) (z_m hm_9 lj) hI (lv_sub hl [0, 1, 2, 3] rfl)
        exact L_9 _ 0 0 _ _ _ (Nat.zero_le _) rfl (Nat.lt_succ_self _) hI (lv_sub hl [0, 1, 2, 3] rfl)
  exact L_2 _ 0 0 _ _ _ (Nat.zero_le _) rfl (Nat.lt_succ_self _) hI (lv_sub hl [0, 1, 2] rfl)

abbrev rm_Mo_encrypt : Room := { frames := 2, cells := 0, slots := 0, locals := 49 }
set_option maxHeartbeats 4000000 in
set_option maxRecDepth 100000 in
theorem c_Mo_encrypt (l : Launch) {D : gw_D} {Hs : Heap} {G : gw_G} (o : Nat) (q : Nat → Nat) (B : Nat) (t0 : Int32) (f0 l0 g0 : Nat) (fu fn fx fi : Nat → Int32) (fl : Nat → Int64) (hM : mdl D G o q B t0 f0 l0 g0 fu fn fx fi fl) (a1 : Int32) (s1 : Nat) (ha1 : a1 = nI s1) (hs1 : s1 < 16) : Met l y_Mo_encrypt (Cond.code y_Mo_encrypt b_Mo_encrypt 3 none :: tb) rm_Mo_encrypt (gw_Pc D Hs G [.ref o, .int a1]) (gw_Qv D Hs (fun G1 => G1 = G)) 0 0 (gw_A Hs) := by
  refine gw_met (by decide) (Nat.le_of_ble_eq_true rfl) ?_
  intro p e s m args below meth c M hK hr hlo hin hI ls hl
  have hx := M.1
  have hb := M.2.1
  have hl : lv_has ls 3 [(0, .ref o), (1, .int a1)] := hl
  have hf : gw_fr (mown o q) G G := gw_fr.rf
  refine lv_aload_n hx hb d_Mo_encrypt_0 rfl (lv_at hl 0 rfl) ?_
  refine lv_iload_n hx hb d_Mo_encrypt_1 rfl (lv_at hl 1 rfl) ?_
  refine lv_iconst (v := 0) hx hb d_Mo_encrypt_2 (by decide) ?_
  refine gw_Vv (As := [.int a1, .int 0]) (rest := []) M hK hI (c_Mo_addWords l o q B t0 f0 l0 g0 fu fn fx fi fl hM a1 s1 ha1 hs1 0 0 rfl (by decide)) k_Mo_addWords m_Mo_100 hM.O (ci := 6) rfl (fun x hx => ⟨_, hx⟩) rfl hl.1 rfl (Nat.le_of_ble_eq_true rfl) ⟨rfl, rfl, ⟨Nat.le_of_ble_eq_true rfl, Nat.le_of_ble_eq_true rfl⟩, ⟨Nat.le_of_ble_eq_true rfl, Nat.le_of_ble_eq_true rfl⟩⟩ d_Mo_encrypt_3 (fun G9 H locs hw hI => ?_)
  rw [hw] at hI
  refine lv_iconst (v := 1) hx hb d_Mo_encrypt_6 (by decide) ?_
  refine lv_istore_n (lv' := [(2, .int 1), (0, .ref o), (1, .int a1)]) hx hb d_Mo_encrypt_7 rfl hl (by decide) rfl (fun ls hl => ?_)
  have L_8 : ∀ (n9 : Nat) (k : Nat) (y2 : Int32) (H : Heap) (locs : List Loc) (ls : Array Slot), k ≤ 11 → y2 = nI k → 11 - k < n9 → gw_I D Hs G s.heap H locs → lv_has ls 3 [(2, .int y2), (0, .ref o), (1, .int a1)] → W p l e rm_Mo_encrypt s m args below meth c H locs 0 0 (MQ below (gw_Qv D Hs (fun G1 => G1 = G)) args s 0 0 (gw_A Hs)) (F0 m 8 ls []) := by
    intro n9
    induction n9 with
    | zero =>
      intro k y2 H locs ls bk hk hm hI hl
      exact absurd hm (Nat.not_lt_zero _)
    | succ n9 ih_8 =>
      intro k y2 H locs ls bk hk hm_8 hI hl
      refine lv_iload_n hx hb d_Mo_encrypt_8 rfl (lv_at hl 0 rfl) ?_
      refine lv_bipush (v := 10) hx hb d_Mo_encrypt_9 (by decide) ?_
      refine lv_icmp_gt (tgt := 41) hx hb d_Mo_encrypt_11 (by decide) (fun c_11 => ?_) (fun c_11 => ?_)
      · exact gw_vret M hr hlo hI d_Mo_encrypt_41 rfl
      · have lk : k ≤ 10 := nb_le (n := 10) hk c_11 (by decide) (by omega)
        refine lv_aload_n hx hb d_Mo_encrypt_14 rfl (lv_at hl 1 rfl) ?_
        refine lv_iload_n hx hb d_Mo_encrypt_15 rfl (lv_at hl 0 rfl) ?_
        refine lv_bipush (v := 10) hx hb d_Mo_encrypt_16 (by decide) ?_
        refine lv_icmp_ge (tgt := 25) hx hb d_Mo_encrypt_18 (by decide) (fun c_18 => ?_) (fun c_18 => ?_)
        · refine lv_iconst (v := 0) hx hb d_Mo_encrypt_25 (by decide) ?_
          refine gw_Vv (As := [.int 0]) (rest := []) M hK hI (c_Mo_round l o q B t0 f0 l0 g0 fu fn fx fi fl hM (0 : Int32)) k_Mo_round m_Mo_104 hM.O (ci := 6) rfl (fun x hx => ⟨_, hx⟩) rfl hl.1 rfl (Nat.le_of_ble_eq_true rfl) ⟨rfl, rfl, ⟨Nat.le_of_ble_eq_true rfl, Nat.le_of_ble_eq_true rfl⟩, ⟨Nat.le_of_ble_eq_true rfl, Nat.le_of_ble_eq_true rfl⟩⟩ d_Mo_encrypt_26 (fun G9 H locs hw hI => ?_)
          rw [hw] at hI
          refine lv_aload_n hx hb d_Mo_encrypt_29 rfl (lv_at hl 1 rfl) ?_
          refine lv_iload_n hx hb d_Mo_encrypt_30 rfl (lv_at hl 2 rfl) ?_
          refine lv_iload_n hx hb d_Mo_encrypt_31 rfl (lv_at hl 0 rfl) ?_
          refine gw_Vv (As := [.int a1, .int y2]) (rest := []) M hK hI (c_Mo_addWords l o q B t0 f0 l0 g0 fu fn fx fi fl hM a1 s1 ha1 hs1 y2 k hk lk) k_Mo_addWords m_Mo_100 hM.O (ci := 6) rfl (fun x hx => ⟨_, hx⟩) rfl hl.1 rfl (Nat.le_of_ble_eq_true rfl) ⟨rfl, rfl, ⟨Nat.le_of_ble_eq_true rfl, Nat.le_of_ble_eq_true rfl⟩, ⟨Nat.le_of_ble_eq_true rfl, Nat.le_of_ble_eq_true rfl⟩⟩ d_Mo_encrypt_32 (fun G9 H locs hw hI => ?_)
          rw [hw] at hI
          obtain ⟨x4, e_x4⟩ : ∃ ww9 : Int32, ww9 = y2 + 1 := ⟨_, rfl⟩
          refine lv_iinc (v := x4) (lv' := [(2, .int x4), (0, .ref o), (1, .int a1)]) hx hb d_Mo_encrypt_35 hl (k := 0) rfl (by rw [e_x4]; rfl) (by decide) rfl (fun ls hl => ?_)
          refine lv_goto (tgt := 8) hx hb d_Mo_encrypt_38 (by decide) ?_
          exact ih_8 (k + 1) x4 _ _ _ (by omega) (nb_s e_x4 hk) (by have hm := hm_8; omega) hI (lv_sub hl [0, 1, 2] rfl)
        · refine lv_iconst (v := 1) hx hb d_Mo_encrypt_21 (by decide) ?_
          refine lv_goto (tgt := 26) hx hb d_Mo_encrypt_22 (by decide) ?_
          refine gw_Vv (As := [.int 1]) (rest := []) M hK hI (c_Mo_round l o q B t0 f0 l0 g0 fu fn fx fi fl hM (1 : Int32)) k_Mo_round m_Mo_104 hM.O (ci := 6) rfl (fun x hx => ⟨_, hx⟩) rfl hl.1 rfl (Nat.le_of_ble_eq_true rfl) ⟨rfl, rfl, ⟨Nat.le_of_ble_eq_true rfl, Nat.le_of_ble_eq_true rfl⟩, ⟨Nat.le_of_ble_eq_true rfl, Nat.le_of_ble_eq_true rfl⟩⟩ d_Mo_encrypt_26 (fun G9 H locs hw hI => ?_)
          rw [hw] at hI
          refine lv_aload_n hx hb d_Mo_encrypt_29 rfl (lv_at hl 1 rfl) ?_
          refine lv_iload_n hx hb d_Mo_encrypt_30 rfl (lv_at hl 2 rfl) ?_
          refine lv_iload_n hx hb d_Mo_encrypt_31 rfl (lv_at hl 0 rfl) ?_
          refine gw_Vv (As := [.int a1, .int y2]) (rest := []) M hK hI (c_Mo_addWords l o q B t0 f0 l0 g0 fu fn fx fi fl hM a1 s1 ha1 hs1 y2 k hk lk) k_Mo_addWords m_Mo_100 hM.O (ci := 6) rfl (fun x hx => ⟨_, hx⟩) rfl hl.1 rfl (Nat.le_of_ble_eq_true rfl) ⟨rfl, rfl, ⟨Nat.le_of_ble_eq_true rfl, Nat.le_of_ble_eq_true rfl⟩, ⟨Nat.le_of_ble_eq_true rfl, Nat.le_of_ble_eq_true rfl⟩⟩ d_Mo_encrypt_32 (fun G9 H locs hw hI => ?_)
          rw [hw] at hI
          obtain ⟨x7, e_x7⟩ : ∃ ww9 : Int32, ww9 = y2 + 1 := ⟨_, rfl⟩
          refine lv_iinc (v := x7) (lv' := [(2, .int x7), (0, .ref o), (1, .int a1)]) hx hb d_Mo_encrypt_35 hl (k := 0) rfl (by rw [e_x7]; rfl) (by decide) rfl (fun ls hl => ?_)
          refine lv_goto (tgt := 8) hx hb d_Mo_encrypt_38 (by decide) ?_
          exact ih_8 (k + 1) x7 _ _ _ (by omega) (nb_s e_x7 hk) (by have hm := hm_8; omega) hI (lv_sub hl [0, 1, 2] rfl)
  exact L_8 _ 1 1 _ _ _ (by decide) rfl (Nat.lt_succ_self _) hI (lv_sub hl [0, 1, 2] rfl)

abbrev rm_Mo_counted : Room := { frames := 3, cells := 0, slots := 0, locals := 71 }
set_option maxHeartbeats 4000000 in
set_option maxRecDepth 100000 in
theorem c_Mo_counted (l : Launch) {D : gw_D} {Hs : Heap} {G : gw_G} (o : Nat) (q : Nat → Nat) (B : Nat) (t0 : Int32) (f0 l0 g0 : Nat) (fu fn fx fi : Nat → Int32) (fl : Nat → Int64) (hM : mdl D G o q B t0 f0 l0 g0 fu fn fx fi fl) (a1 : Int32) (s1 : Nat) (ha1 : a1 = nI s1) (hs1 : s1 < 16) (a2 : Int32) : Met l y_Mo_counted (Cond.code y_Mo_counted b_Mo_counted 4 none :: tb) rm_Mo_counted (gw_Pc D Hs G [.ref o, .int a1, .int a2]) (gw_Qv D Hs (fun G1 => G1 = G)) 0 0 (gw_A Hs) := by
  refine gw_met (by decide) (Nat.le_of_ble_eq_true rfl) ?_
  intro p e s m args below meth c M hK hr hlo hin hI ls hl
  have hx := M.1
  have hb := M.2.1
  have hl : lv_has ls 4 [(0, .ref o), (1, .int a1), (2, .int a2)] := hl
  have hf : gw_fr (mown o q) G G := gw_fr.rf
  refine lv_iconst (v := 0) hx hb d_Mo_counted_0 (by decide) ?_
  refine lv_istore_n (lv' := [(3, .int 0), (0, .ref o), (1, .int a1), (2, .int a2)]) hx hb d_Mo_counted_1 rfl hl (by decide) rfl (fun ls hl => ?_)
  have L_2 : ∀ (n9 : Nat) (k : Nat) (y3 : Int32) (H : Heap) (locs : List Loc) (ls : Array Slot), k ≤ 4 → y3 = nI k → 4 - k < n9 → gw_I D Hs G s.heap H locs → lv_has ls 4 [(3, .int y3), (0, .ref o), (1, .int a1), (2, .int a2)] → W p l e rm_Mo_counted s m args below meth c H locs 0 0 (MQ below (gw_Qv D Hs (fun G1 => G1 = G)) args s 0 0 (gw_A Hs)) (F0 m 2 ls []) := by
    intro n9
    induction n9 with
    | zero =>
      intro k y3 H locs ls bk hk hm hI hl
      exact absurd hm (Nat.not_lt_zero _)
    | succ n9 ih_2 =>
      intro k y3 H locs ls bk hk hm_2 hI hl
      refine lv_iload_n hx hb d_Mo_counted_2 rfl (lv_at hl 0 rfl) ?_
      refine lv_iconst (v := 4) hx hb d_Mo_counted_3 (by decide) ?_
      refine lv_icmp_ge (tgt := 59) hx hb d_Mo_counted_4 (by decide) (fun c_4 => ?_) (fun c_4 => ?_)
      · refine lv_iconst (v := 0) hx hb d_Mo_counted_59 (by decide) ?_
        refine lv_istore_n (lv' := [(3, .int 0), (0, .ref o), (1, .int a1), (2, .int a2)]) hx hb d_Mo_counted_60 rfl hl (by decide) rfl (fun ls hl => ?_)
        have L_61 : ∀ (n9 : Nat) (j : Nat) (y3 : Int32) (H : Heap) (locs : List Loc) (ls : Array Slot), j ≤ 8 → y3 = nI j → 8 - j < n9 → gw_I D Hs G s.heap H locs → lv_has ls 4 [(3, .int y3), (0, .ref o), (1, .int a1), (2, .int a2)] → W p l e rm_Mo_counted s m args below meth c H locs 0 0 (MQ below (gw_Qv D Hs (fun G1 => G1 = G)) args s 0 0 (gw_A Hs)) (F0 m 61 ls []) := by
          intro n9
          induction n9 with
          | zero =>
            intro j y3 H locs ls bj hj hm hI hl
            exact absurd hm (Nat.not_lt_zero _)
          | succ n9 ih_61 =>
            intro j y3 H locs ls bj hj hm_61 hI hl
            refine lv_iload_n hx hb d_Mo_counted_61 rfl (lv_at hl 0 rfl) ?_
            refine lv_bipush (v := 8) hx hb d_Mo_counted_62 (by decide) ?_
            refine lv_icmp_ge (tgt := 90) hx hb d_Mo_counted_64 (by decide) (fun c_64 => ?_) (fun c_64 => ?_)
            · refine lv_aload_n hx hb d_Mo_counted_90 rfl (lv_at hl 1 rfl) ?_
              refine lv_iload_n hx hb d_Mo_counted_91 rfl (lv_at hl 2 rfl) ?_
              refine gw_Vv (As := [.int a1]) (rest := []) M hK hI (c_Mo_encrypt l o q B t0 f0 l0 g0 fu fn fx fi fl hM a1 s1 ha1 hs1) k_Mo_encrypt m_Mo_108 hM.O (ci := 6) rfl (fun x hx => ⟨_, hx⟩) rfl hl.1 rfl (Nat.le_of_ble_eq_true rfl) ⟨rfl, rfl, ⟨Nat.le_of_ble_eq_true rfl, Nat.le_of_ble_eq_true rfl⟩, ⟨Nat.le_of_ble_eq_true rfl, Nat.le_of_ble_eq_true rfl⟩⟩ d_Mo_counted_92 (fun G9 H locs hw hI => ?_)
              rw [hw] at hI
              exact gw_vret M hr hlo hI d_Mo_counted_95 rfl
            · have lj : j < 8 := nb_lt (n := 8) hj c_64 (by decide) (z_31 bj)
              refine lv_aload_n hx hb d_Mo_counted_67 rfl (lv_at hl 1 rfl) ?_
              refine gw_get M hK hI hM.O i_Mo rfl 24 (by decide) f_Mo_72 rfl (Pv := fun v => v = .ref (q 24)) (fun x hx => ⟨_, _, hx, rfl, rfl⟩) d_Mo_counted_68 (fun v hv => ?_)
              subst hv
              refine lv_iconst (v := 4) hx hb d_Mo_counted_71 (by decide) ?_
              refine lv_iload_n hx hb d_Mo_counted_72 rfl (lv_at hl 0 rfl) ?_
              refine lv_iadd hx hb d_Mo_counted_73 ?_
              refine lv_aload_n hx hb d_Mo_counted_74 rfl (lv_at hl 1 rfl) ?_
              refine gw_get M hK hI hM.O i_Mo rfl 18 (by decide) f_Mo_60 rfl (Pv := fun v => v = .ref (q 18)) (fun x hx => ⟨_, _, hx, rfl, rfl⟩) d_Mo_counted_75 (fun v hv => ?_)
              subst hv
              refine lv_bipush (v := 8) hx hb d_Mo_counted_78 (by decide) ?_
              refine lv_iload_n hx hb d_Mo_counted_80 rfl (lv_at hl 0 rfl) ?_
              refine lv_iadd hx hb d_Mo_counted_81 ?_
              refine gw_iald M hK hI hM.k18 (nb_in (nb_aa (k := 8) rfl hj) (by omega) (by decide)) d_Mo_counted_82 (fun x2 h_x2 => ?_)
              refine gw_iast M hK hI hM.k24 (nb_in (nb_aa (k := 4) rfl hj) (by omega) (by decide)) h_x2 d_Mo_counted_83 (fun H locs hI => ?_)
              obtain ⟨x3, e_x3⟩ : ∃ ww9 : Int32, ww9 = y3 + 1 := ⟨_, rfl⟩
              refine lv_iinc (v := x3) (lv' := [(3, .int x3), (0, .ref o), (1, .int a1), (2, .int a2)]) hx hb d_Mo_counted_84 hl (k := 0) rfl (by rw [e_x3]; rfl) (by decide) rfl (fun ls hl => ?_)
              refine lv_goto (tgt := 61) hx hb d_Mo_counted_87 (by decide) ?_
              exact ih_61 (j + 1) x3 _ _ _ lj (nb_s e_x3 hj) (z_m hm_61 lj) hI (lv_sub hl [0, 1, 2, 3] rfl)
        exact L_61 _ 0 0 _ _ _ (Nat.zero_le _) rfl (Nat.lt_succ_self _) hI (lv_sub hl [0, 1, 2, 3] rfl)
      · have lk : k < 4 := nb_lt (n := 4) hk c_4 (by decide) (z_31 bk)
        refine lv_aload_n hx hb d_Mo_counted_7 rfl (lv_at hl 1 rfl) ?_
        refine gw_get M hK hI hM.O i_Mo rfl 24 (by decide) f_Mo_72 rfl (Pv := fun v => v = .ref (q 24)) (fun x hx => ⟨_, _, hx, rfl, rfl⟩) d_Mo_counted_8 (fun v hv => ?_)
        subst hv
        refine lv_iload_n hx hb d_Mo_counted_11 rfl (lv_at hl 0 rfl) ?_
        refine lv_aload_n hx hb d_Mo_counted_12 rfl (lv_at hl 1 rfl) ?_
        refine gw_get M hK hI hM.O i_Mo rfl 5 (by decide) f_Mo_23 rfl (Pv := fun v => v = .ref (q 5)) (fun x hx => ⟨_, _, hx, rfl, rfl⟩) d_Mo_counted_13 (fun v hv => ?_)
        subst hv
        refine lv_iload_n hx hb d_Mo_counted_16 rfl (lv_at hl 2 rfl) ?_
        refine gw_iald M hK hI hM.k5 (nb_in ha1 hs1) d_Mo_counted_17 (fun x4 h_x4 => ?_)
        refine lv_bipush (v := 24) hx hb d_Mo_counted_18 (by decide) ?_
        refine lv_bipush (v := 8) hx hb d_Mo_counted_20 (by decide) ?_
        refine lv_iload_n hx hb d_Mo_counted_22 rfl (lv_at hl 0 rfl) ?_
        refine lv_imul hx hb d_Mo_counted_23 ?_
        refine lv_isub hx hb d_Mo_counted_24 ?_
        refine lv_ishr hx hb d_Mo_counted_25 ?_
        refine lv_sipush (v := 255) hx hb d_Mo_counted_26 (by decide) ?_
        refine lv_iand hx hb d_Mo_counted_29 ?_
        refine lv_topi (fun x5 e_x5 => ?_)
        refine gw_iast M hK hI hM.k24 (nb_in hk (by omega)) (by rw [e_x5]; exact (by8_255 _)) d_Mo_counted_30 (fun H locs hI => ?_)
        refine lv_aload_n hx hb d_Mo_counted_31 rfl (lv_at hl 1 rfl) ?_
        refine gw_get M hK hI hM.O i_Mo rfl 24 (by decide) f_Mo_72 rfl (Pv := fun v => v = .ref (q 24)) (fun x hx => ⟨_, _, hx, rfl, rfl⟩) d_Mo_counted_32 (fun v hv => ?_)
        subst hv
        refine lv_bipush (v := 12) hx hb d_Mo_counted_35 (by decide) ?_
        refine lv_iload_n hx hb d_Mo_counted_37 rfl (lv_at hl 0 rfl) ?_
        refine lv_iadd hx hb d_Mo_counted_38 ?_
        refine lv_iload_n hx hb d_Mo_counted_39 rfl (lv_at hl 3 rfl) ?_
        refine lv_bipush (v := 24) hx hb d_Mo_counted_40 (by decide) ?_
        refine lv_bipush (v := 8) hx hb d_Mo_counted_42 (by decide) ?_
        refine lv_iload_n hx hb d_Mo_counted_44 rfl (lv_at hl 0 rfl) ?_
        refine lv_imul hx hb d_Mo_counted_45 ?_
        refine lv_isub hx hb d_Mo_counted_46 ?_
        refine lv_ishr hx hb d_Mo_counted_47 ?_
        refine lv_sipush (v := 255) hx hb d_Mo_counted_48 (by decide) ?_
        refine lv_iand hx hb d_Mo_counted_51 ?_
        refine lv_topi (fun x6 e_x6 => ?_)
        refine gw_iast M hK hI hM.k24 (nb_in (nb_aa (k := 12) rfl hk) (by omega) (by decide)) (by rw [e_x6]; exact (by8_255 _)) d_Mo_counted_52 (fun H locs hI => ?_)
        obtain ⟨x7, e_x7⟩ : ∃ ww9 : Int32, ww9 = y3 + 1 := ⟨_, rfl⟩
        refine lv_iinc (v := x7) (lv' := [(3, .int x7), (0, .ref o), (1, .int a1), (2, .int a2)]) hx hb d_Mo_counted_53 hl (k := 0) rfl (by rw [e_x7]; rfl) (by decide) rfl (fun ls hl => ?_)
        refine lv_goto (tgt := 2) hx hb d_Mo_counted_56 (by decide) ?_
        exact ih_2 (k + 1) x7 _ _ _ lk (nb_s e_x7 hk) (z_m hm_2 lk) hI (lv_sub hl [0, 1, 2, 3] rfl)
  exact L_2 _ 0 0 _ _ _ (Nat.zero_le _) rfl (Nat.lt_succ_self _) hI (lv_sub hl [0, 1, 2, 3] rfl)

abbrev rm_Mo_multiply : Room := { frames := 1, cells := 0, slots := 0, locals := 21 }
set_option maxHeartbeats 4000000 in
set_option maxRecDepth 100000 in
theorem c_Mo_multiply (l : Launch) {D : gw_D} {Hs : Heap} {G : gw_G} (o : Nat) (q : Nat → Nat) (B : Nat) (t0 : Int32) (f0 l0 g0 : Nat) (fu fn fx fi : Nat → Int32) (fl : Nat → Int64) (hM : mdl D G o q B t0 f0 l0 g0 fu fn fx fi fl)  : Met l y_Mo_multiply (Cond.code y_Mo_multiply b_Mo_multiply 4 none :: tb) rm_Mo_multiply (gw_Pc D Hs G [.ref o]) (gw_Qv D Hs (fun G1 => G1 = G)) 0 0 (gw_A Hs) := by
  refine gw_met (by decide) (Nat.le_of_ble_eq_true rfl) ?_
  intro p e s m args below meth c M hK hr hlo hin hI ls hl
  have hx := M.1
  have hb := M.2.1
  have hl : lv_has ls 4 [(0, .ref o)] := hl
  have hf : gw_fr (mown o q) G G := gw_fr.rf
  refine lv_iconst (v := 0) hx hb d_Mo_multiply_0 (by decide) ?_
  refine lv_istore_n (lv' := [(1, .int 0), (0, .ref o)]) hx hb d_Mo_multiply_1 rfl hl (by decide) rfl (fun ls hl => ?_)
  have L_2 : ∀ (n9 : Nat) (n : Nat) (y1 : Int32) (H : Heap) (locs : List Loc) (ls : Array Slot), n ≤ 16 → y1 = nI n → 16 - n < n9 → gw_I D Hs G s.heap H locs → lv_has ls 4 [(1, .int y1), (0, .ref o)] → W p l e rm_Mo_multiply s m args below meth c H locs 0 0 (MQ below (gw_Qv D Hs (fun G1 => G1 = G)) args s 0 0 (gw_A Hs)) (F0 m 2 ls []) := by
    intro n9
    induction n9 with
    | zero =>
      intro n y1 H locs ls bn hn hm hI hl
      exact absurd hm (Nat.not_lt_zero _)
    | succ n9 ih_2 =>
      intro n y1 H locs ls bn hn hm_2 hI hl
      refine lv_iload_n hx hb d_Mo_multiply_2 rfl (lv_at hl 0 rfl) ?_
      refine lv_bipush (v := 16) hx hb d_Mo_multiply_3 (by decide) ?_
      refine lv_icmp_ge (tgt := 21) hx hb d_Mo_multiply_5 (by decide) (fun c_5 => ?_) (fun c_5 => ?_)
      · refine lv_bipush (v := 127) hx hb d_Mo_multiply_21 (by decide) ?_
        refine lv_istore_n (lv' := [(1, .int 127), (0, .ref o)]) hx hb d_Mo_multiply_23 rfl hl (by decide) rfl (fun ls hl => ?_)
        have L_24 : ∀ (n9 : Nat) (k : Nat) (y1 : Int32) (H : Heap) (locs : List Loc) (ls : Array Slot), k ≤ 128 → y1 = nI k - 1 → k < n9 → gw_I D Hs G s.heap H locs → lv_has ls 4 [(1, .int y1), (0, .ref o)] → W p l e rm_Mo_multiply s m args below meth c H locs 0 0 (MQ below (gw_Qv D Hs (fun G1 => G1 = G)) args s 0 0 (gw_A Hs)) (F0 m 24 ls []) := by
          intro n9
          induction n9 with
          | zero =>
            intro k y1 H locs ls bk hk hm hI hl
            exact absurd hm (Nat.not_lt_zero _)
          | succ n9 ih_24 =>
            intro k y1 H locs ls bk hk hm_24 hI hl
            refine lv_iload_n hx hb d_Mo_multiply_24 rfl (lv_at hl 0 rfl) ?_
            refine lv_if_lt (tgt := 157) hx hb d_Mo_multiply_25 (by decide) (fun c_25 => ?_) (fun c_25 => ?_)
            · refine lv_iconst (v := 0) hx hb d_Mo_multiply_157 (by decide) ?_
              refine lv_istore_n (lv' := [(1, .int 0), (0, .ref o)]) hx hb d_Mo_multiply_158 rfl hl (by decide) rfl (fun ls hl => ?_)
              have L_159 : ∀ (n9 : Nat) (n : Nat) (y1 : Int32) (H : Heap) (locs : List Loc) (ls : Array Slot), n ≤ 16 → y1 = nI n → 16 - n < n9 → gw_I D Hs G s.heap H locs → lv_has ls 4 [(1, .int y1), (0, .ref o)] → W p l e rm_Mo_multiply s m args below meth c H locs 0 0 (MQ below (gw_Qv D Hs (fun G1 => G1 = G)) args s 0 0 (gw_A Hs)) (F0 m 159 ls []) := by
                intro n9
                induction n9 with
                | zero =>
                  intro n y1 H locs ls bn hn hm hI hl
                  exact absurd hm (Nat.not_lt_zero _)
                | succ n9 ih_159 =>
                  intro n y1 H locs ls bn hn hm_159 hI hl
                  refine lv_iload_n hx hb d_Mo_multiply_159 rfl (lv_at hl 0 rfl) ?_
                  refine lv_bipush (v := 16) hx hb d_Mo_multiply_160 (by decide) ?_
                  refine lv_icmp_ge (tgt := 183) hx hb d_Mo_multiply_162 (by decide) (fun c_162 => ?_) (fun c_162 => ?_)
                  · exact gw_vret M hr hlo hI d_Mo_multiply_183 rfl
                  · have ln : n < 16 := nb_lt (n := 16) hn c_162 (by decide) (z_31 bn)
                    refine lv_aload_n hx hb d_Mo_multiply_165 rfl (lv_at hl 1 rfl) ?_
                    refine gw_get M hK hI hM.O i_Mo rfl 26 (by decide) f_Mo_78 rfl (Pv := fun v => v = .ref (q 26)) (fun x hx => ⟨_, _, hx, rfl, rfl⟩) d_Mo_multiply_166 (fun v hv => ?_)
                    subst hv
                    refine lv_iload_n hx hb d_Mo_multiply_169 rfl (lv_at hl 0 rfl) ?_
                    refine lv_aload_n hx hb d_Mo_multiply_170 rfl (lv_at hl 1 rfl) ?_
                    refine gw_get M hK hI hM.O i_Mo rfl 28 (by decide) f_Mo_84 rfl (Pv := fun v => v = .ref (q 28)) (fun x hx => ⟨_, _, hx, rfl, rfl⟩) d_Mo_multiply_171 (fun v hv => ?_)
                    subst hv
                    refine lv_iload_n hx hb d_Mo_multiply_174 rfl (lv_at hl 0 rfl) ?_
                    refine gw_iald M hK hI hM.k28 (nb_in hn ln) d_Mo_multiply_175 (fun x1 h_x1 => ?_)
                    refine gw_iast M hK hI hM.k26 (nb_in hn ln) h_x1 d_Mo_multiply_176 (fun H locs hI => ?_)
                    obtain ⟨x2, e_x2⟩ : ∃ ww9 : Int32, ww9 = y1 + 1 := ⟨_, rfl⟩
                    refine lv_iinc (v := x2) (lv' := [(1, .int x2), (0, .ref o)]) hx hb d_Mo_multiply_177 hl (k := 0) rfl (by rw [e_x2]; rfl) (by decide) rfl (fun ls hl => ?_)
                    refine lv_goto (tgt := 159) hx hb d_Mo_multiply_180 (by decide) ?_
                    exact ih_159 (n + 1) x2 _ _ _ ln (nb_s e_x2 hn) (z_m hm_159 ln) hI (lv_sub hl [0, 1] rfl)
              exact L_159 _ 0 0 _ _ _ (Nat.zero_le _) rfl (Nat.lt_succ_self _) hI (lv_sub hl [0, 1] rfl)
            · have hk0 : 0 < k := by
                rcases Nat.eq_zero_or_pos k with q | q
                · subst q; exact absurd (by rw [hk]; decide) c_25
                · exact q
              refine lv_aload_n hx hb d_Mo_multiply_28 rfl (lv_at hl 1 rfl) ?_
              refine gw_get M hK hI hM.O i_Mo rfl 28 (by decide) f_Mo_84 rfl (Pv := fun v => v = .ref (q 28)) (fun x hx => ⟨_, _, hx, rfl, rfl⟩) d_Mo_multiply_29 (fun v hv => ?_)
              subst hv
              refine lv_bipush (v := 15) hx hb d_Mo_multiply_32 (by decide) ?_
              refine gw_iald M hK hI hM.k28 (vp_in_nI (n := 15) (by decide) (by decide)) d_Mo_multiply_34 (fun x3 h_x3 => ?_)
              refine lv_iconst (v := 1) hx hb d_Mo_multiply_35 (by decide) ?_
              refine lv_iand hx hb d_Mo_multiply_36 ?_
              refine lv_topi (fun x4 e_x4 => ?_)
              refine lv_istore_n (lv' := [(2, .int x4), (1, .int y1), (0, .ref o)]) hx hb d_Mo_multiply_37 rfl hl (by decide) rfl (fun ls hl => ?_)
              refine lv_bipush (v := 15) hx hb d_Mo_multiply_38 (by decide) ?_
              refine lv_istore_n (lv' := [(3, .int 15), (2, .int x4), (1, .int y1), (0, .ref o)]) hx hb d_Mo_multiply_40 rfl hl (by decide) rfl (fun ls hl => ?_)
              have L_41 : ∀ (n9 : Nat) (i : Nat) (y2 : Int32) (y3 : Int32) (H : Heap) (locs : List Loc) (ls : Array Slot), i ≤ 15 → y3 = nI i → i < n9 → gw_I D Hs G s.heap H locs → lv_has ls 4 [(3, .int y3), (2, .int y2), (1, .int y1), (0, .ref o)] → W p l e rm_Mo_multiply s m args below meth c H locs 0 0 (MQ below (gw_Qv D Hs (fun G1 => G1 = G)) args s 0 0 (gw_A Hs)) (F0 m 41 ls []) := by
                intro n9
                induction n9 with
                | zero =>
                  intro i y2 y3 H locs ls bi hi hm hI hl
                  exact absurd hm (Nat.not_lt_zero _)
                | succ n9 ih_41 =>
                  intro i y2 y3 H locs ls bi hi hm_41 hI hl
                  refine lv_iload_n hx hb d_Mo_multiply_41 rfl (lv_at hl 0 rfl) ?_
                  refine lv_if_le (tgt := 79) hx hb d_Mo_multiply_42 (by decide) (fun c_42 => ?_) (fun c_42 => ?_)
                  · refine lv_aload_n hx hb d_Mo_multiply_79 rfl (lv_at hl 3 rfl) ?_
                    refine gw_get M hK hI hM.O i_Mo rfl 28 (by decide) f_Mo_84 rfl (Pv := fun v => v = .ref (q 28)) (fun x hx => ⟨_, _, hx, rfl, rfl⟩) d_Mo_multiply_80 (fun v hv => ?_)
                    subst hv
                    refine lv_iconst (v := 0) hx hb d_Mo_multiply_83 (by decide) ?_
                    refine lv_aload_n hx hb d_Mo_multiply_84 rfl (lv_at hl 3 rfl) ?_
                    refine gw_get M hK hI hM.O i_Mo rfl 28 (by decide) f_Mo_84 rfl (Pv := fun v => v = .ref (q 28)) (fun x hx => ⟨_, _, hx, rfl, rfl⟩) d_Mo_multiply_85 (fun v hv => ?_)
                    subst hv
                    refine lv_iconst (v := 0) hx hb d_Mo_multiply_88 (by decide) ?_
                    refine gw_iald M hK hI hM.k28 (vp_in_nI (n := 0) (by decide) (by decide)) d_Mo_multiply_89 (fun x5 h_x5 => ?_)
                    refine lv_iconst (v := 1) hx hb d_Mo_multiply_90 (by decide) ?_
                    refine lv_ishr hx hb d_Mo_multiply_91 ?_
                    refine lv_iload_n hx hb d_Mo_multiply_92 rfl (lv_at hl 1 rfl) ?_
                    refine lv_iconst (v := 1) hx hb d_Mo_multiply_93 (by decide) ?_
                    have J_104 : ∀ (j104 : Int32) (H : Heap) (locs : List Loc) (ls : Array Slot), by8 j104 → gw_I D Hs G s.heap H locs → lv_has ls 4 [(3, .int y3), (2, .int y2), (1, .int y1), (0, .ref o)] → W p l e rm_Mo_multiply s m args below meth c H locs 0 0 (MQ below (gw_Qv D Hs (fun G1 => G1 = G)) args s 0 0 (gw_A Hs)) (F0 m 104 ls [.int j104, .int (x5 >>> ((1 : Int32) &&& 31)), .int 0, .ref (q 28)]) := by
                      intro j104 H locs ls h_j104 hI hl
                      refine lv_ixor hx hb d_Mo_multiply_104 ?_
                      refine lv_topi (fun x6 e_x6 => ?_)
                      refine gw_iast M hK hI hM.k28 (vp_in_nI (n := 0) (by decide) (by decide)) (by rw [e_x6]; exact (by8_xor (by8_sr h_x5) h_j104)) d_Mo_multiply_105 (fun H locs hI => ?_)
                      refine lv_iconst (v := 0) hx hb d_Mo_multiply_106 (by decide) ?_
                      refine lv_istore_n (lv' := [(3, .int 0), (2, .int y2), (1, .int y1), (0, .ref o)]) hx hb d_Mo_multiply_107 rfl hl (by decide) rfl (fun ls hl => ?_)
                      have L_108 : ∀ (n9 : Nat) (j : Nat) (y3 : Int32) (H : Heap) (locs : List Loc) (ls : Array Slot), j ≤ 16 → y3 = nI j → 16 - j < n9 → gw_I D Hs G s.heap H locs → lv_has ls 4 [(3, .int y3), (1, .int y1), (0, .ref o)] → W p l e rm_Mo_multiply s m args below meth c H locs 0 0 (MQ below (gw_Qv D Hs (fun G1 => G1 = G)) args s 0 0 (gw_A Hs)) (F0 m 108 ls []) := by
                        intro n9
                        induction n9 with
                        | zero =>
                          intro j y3 H locs ls bj hj hm hI hl
                          exact absurd hm (Nat.not_lt_zero _)
                        | succ n9 ih_108 =>
                          intro j y3 H locs ls bj hj hm_108 hI hl
                          refine lv_iload_n hx hb d_Mo_multiply_108 rfl (lv_at hl 0 rfl) ?_
                          refine lv_bipush (v := 16) hx hb d_Mo_multiply_109 (by decide) ?_
                          refine lv_icmp_ge (tgt := 151) hx hb d_Mo_multiply_111 (by decide) (fun c_111 => ?_) (fun c_111 => ?_)
                          · obtain ⟨x7, e_x7⟩ : ∃ ww9 : Int32, ww9 = y1 + (-1) := ⟨_, rfl⟩
                            refine lv_iinc (v := x7) (lv' := [(1, .int x7), (3, .int y3), (0, .ref o)]) hx hb d_Mo_multiply_151 hl (k := 1) rfl (by rw [e_x7]; rfl) (by decide) rfl (fun ls hl => ?_)
                            refine lv_goto (tgt := 24) hx hb d_Mo_multiply_154 (by decide) ?_
                            exact ih_24 (k - 1) x7 _ _ _ (by omega) (by rw [e_x7, hk, show k = k - 1 + 1 from by omega, nI_pred]; exact (nI_down _).symm) (by have hm := hm_24; omega) hI (lv_sub hl [0, 2] rfl)
                          · have lj : j < 16 := nb_lt (n := 16) hj c_111 (by decide) (z_31 bj)
                            refine lv_aload_n hx hb d_Mo_multiply_114 rfl (lv_at hl 2 rfl) ?_
                            refine gw_get M hK hI hM.O i_Mo rfl 27 (by decide) f_Mo_81 rfl (Pv := fun v => v = .ref (q 27)) (fun x hx => ⟨_, _, hx, rfl, rfl⟩) d_Mo_multiply_115 (fun v hv => ?_)
                            subst hv
                            refine lv_iload_n hx hb d_Mo_multiply_118 rfl (lv_at hl 1 rfl) ?_
                            refine gw_Si (As := [.ref (q 27), .int y1]) (rest := []) M hK hI (c_Mo_bit l (q 27) tT y1 (k - 1) (by rw [hk]; exact pk_sub hk0) (by omega) hM.k27) k_Mo_bit m_Mo_112 rfl hl.1 rfl (Nat.le_of_ble_eq_true rfl) ⟨rfl, rfl, ⟨Nat.le_of_ble_eq_true rfl, Nat.le_of_ble_eq_true rfl⟩, ⟨Nat.le_of_ble_eq_true rfl, Nat.le_of_ble_eq_true rfl⟩⟩ d_Mo_multiply_119 (fun x8 G9 H locs hw hI => ?_)
                            rw [hw] at hI
                            refine lv_iconst (v := 1) hx hb d_Mo_multiply_122 (by decide) ?_
                            refine lv_icmp_ne (tgt := 151) hx hb d_Mo_multiply_123 (by decide) (fun c_123 => ?_) (fun c_123 => ?_)
                            · obtain ⟨x9, e_x9⟩ : ∃ ww9 : Int32, ww9 = y1 + (-1) := ⟨_, rfl⟩
                              refine lv_iinc (v := x9) (lv' := [(1, .int x9), (3, .int y3), (0, .ref o)]) hx hb d_Mo_multiply_151 hl (k := 1) rfl (by rw [e_x9]; rfl) (by decide) rfl (fun ls hl => ?_)
                              refine lv_goto (tgt := 24) hx hb d_Mo_multiply_154 (by decide) ?_
                              exact ih_24 (k - 1) x9 _ _ _ (by omega) (by rw [e_x9, hk, show k = k - 1 + 1 from by omega, nI_pred]; exact (nI_down _).symm) (by have hm := hm_24; omega) hI (lv_sub hl [0, 2] rfl)
                            · refine lv_aload_n hx hb d_Mo_multiply_126 rfl (lv_at hl 2 rfl) ?_
                              refine gw_get M hK hI hM.O i_Mo rfl 28 (by decide) f_Mo_84 rfl (Pv := fun v => v = .ref (q 28)) (fun x hx => ⟨_, _, hx, rfl, rfl⟩) d_Mo_multiply_127 (fun v hv => ?_)
                              subst hv
                              refine lv_iload_n hx hb d_Mo_multiply_130 rfl (lv_at hl 0 rfl) ?_
                              refine lv_aload_n hx hb d_Mo_multiply_131 rfl (lv_at hl 2 rfl) ?_
                              refine gw_get M hK hI hM.O i_Mo rfl 28 (by decide) f_Mo_84 rfl (Pv := fun v => v = .ref (q 28)) (fun x hx => ⟨_, _, hx, rfl, rfl⟩) d_Mo_multiply_132 (fun v hv => ?_)
                              subst hv
                              refine lv_iload_n hx hb d_Mo_multiply_135 rfl (lv_at hl 0 rfl) ?_
                              refine gw_iald M hK hI hM.k28 (nb_in hj lj) d_Mo_multiply_136 (fun x10 h_x10 => ?_)
                              refine lv_aload_n hx hb d_Mo_multiply_137 rfl (lv_at hl 2 rfl) ?_
                              refine gw_get M hK hI hM.O i_Mo rfl 26 (by decide) f_Mo_78 rfl (Pv := fun v => v = .ref (q 26)) (fun x hx => ⟨_, _, hx, rfl, rfl⟩) d_Mo_multiply_138 (fun v hv => ?_)
                              subst hv
                              refine lv_iload_n hx hb d_Mo_multiply_141 rfl (lv_at hl 0 rfl) ?_
                              refine gw_iald M hK hI hM.k26 (nb_in hj lj) d_Mo_multiply_142 (fun x11 h_x11 => ?_)
                              refine lv_ixor hx hb d_Mo_multiply_143 ?_
                              refine lv_topi (fun x12 e_x12 => ?_)
                              refine gw_iast M hK hI hM.k28 (nb_in hj lj) (by rw [e_x12]; exact (by8_xor h_x10 h_x11)) d_Mo_multiply_144 (fun H locs hI => ?_)
                              obtain ⟨x13, e_x13⟩ : ∃ ww9 : Int32, ww9 = y3 + 1 := ⟨_, rfl⟩
                              refine lv_iinc (v := x13) (lv' := [(3, .int x13), (1, .int y1), (0, .ref o)]) hx hb d_Mo_multiply_145 hl (k := 0) rfl (by rw [e_x13]; rfl) (by decide) rfl (fun ls hl => ?_)
                              refine lv_goto (tgt := 108) hx hb d_Mo_multiply_148 (by decide) ?_
                              exact ih_108 (j + 1) x13 _ _ _ lj (nb_s e_x13 hj) (z_m hm_108 lj) hI (lv_sub hl [0, 1, 2] rfl)
                      exact L_108 _ 0 0 _ _ _ (Nat.zero_le _) rfl (Nat.lt_succ_self _) hI (lv_sub hl [0, 2, 3] rfl)
                    refine lv_icmp_ne (tgt := 103) hx hb d_Mo_multiply_94 (by decide) (fun c_94 => ?_) (fun c_94 => ?_)
                    · refine lv_iconst (v := 0) hx hb d_Mo_multiply_103 (by decide) ?_
                      exact J_104 (0 : Int32) _ _ _ (show uN 0 < 256 by decide) hI (lv_sub hl [0, 1, 2, 3] rfl)
                    · refine lv_sipush (v := 225) hx hb d_Mo_multiply_97 (by decide) ?_
                      refine lv_goto (tgt := 104) hx hb d_Mo_multiply_100 (by decide) ?_
                      exact J_104 (225 : Int32) _ _ _ (show uN 225 < 256 by decide) hI (lv_sub hl [0, 1, 2, 3] rfl)
                  · have li : 0 < i := nb_gt' (n := 0) hi c_42 (by decide) (by omega)
                    refine lv_aload_n hx hb d_Mo_multiply_45 rfl (lv_at hl 3 rfl) ?_
                    refine gw_get M hK hI hM.O i_Mo rfl 28 (by decide) f_Mo_84 rfl (Pv := fun v => v = .ref (q 28)) (fun x hx => ⟨_, _, hx, rfl, rfl⟩) d_Mo_multiply_46 (fun v hv => ?_)
                    subst hv
                    refine lv_iload_n hx hb d_Mo_multiply_49 rfl (lv_at hl 0 rfl) ?_
                    refine lv_aload_n hx hb d_Mo_multiply_50 rfl (lv_at hl 3 rfl) ?_
                    refine gw_get M hK hI hM.O i_Mo rfl 28 (by decide) f_Mo_84 rfl (Pv := fun v => v = .ref (q 28)) (fun x hx => ⟨_, _, hx, rfl, rfl⟩) d_Mo_multiply_51 (fun v hv => ?_)
                    subst hv
                    refine lv_iload_n hx hb d_Mo_multiply_54 rfl (lv_at hl 0 rfl) ?_
                    refine gw_iald M hK hI hM.k28 (nb_in hi (by omega)) d_Mo_multiply_55 (fun x14 h_x14 => ?_)
                    refine lv_iconst (v := 1) hx hb d_Mo_multiply_56 (by decide) ?_
                    refine lv_ishr hx hb d_Mo_multiply_57 ?_
                    refine lv_aload_n hx hb d_Mo_multiply_58 rfl (lv_at hl 3 rfl) ?_
                    refine gw_get M hK hI hM.O i_Mo rfl 28 (by decide) f_Mo_84 rfl (Pv := fun v => v = .ref (q 28)) (fun x hx => ⟨_, _, hx, rfl, rfl⟩) d_Mo_multiply_59 (fun v hv => ?_)
                    subst hv
                    refine lv_iload_n hx hb d_Mo_multiply_62 rfl (lv_at hl 0 rfl) ?_
                    refine lv_iconst (v := 1) hx hb d_Mo_multiply_63 (by decide) ?_
                    refine lv_isub hx hb d_Mo_multiply_64 ?_
                    refine gw_iald M hK hI hM.k28 (nb_in (nb_sub hi 1) (by omega) (by decide)) d_Mo_multiply_65 (fun x15 h_x15 => ?_)
                    refine lv_iconst (v := 1) hx hb d_Mo_multiply_66 (by decide) ?_
                    refine lv_iand hx hb d_Mo_multiply_67 ?_
                    refine lv_bipush (v := 7) hx hb d_Mo_multiply_68 (by decide) ?_
                    refine lv_ishl hx hb d_Mo_multiply_70 ?_
                    refine lv_ior hx hb d_Mo_multiply_71 ?_
                    refine lv_topi (fun x16 e_x16 => ?_)
                    refine gw_iast M hK hI hM.k28 (nb_in hi (by omega)) (by rw [e_x16]; exact (by8_or (by8_sr h_x14) (by8_sl (bit_and _)))) d_Mo_multiply_72 (fun H locs hI => ?_)
                    obtain ⟨x17, e_x17⟩ : ∃ ww9 : Int32, ww9 = y3 + (-1) := ⟨_, rfl⟩
                    refine lv_iinc (v := x17) (lv' := [(3, .int x17), (2, .int y2), (1, .int y1), (0, .ref o)]) hx hb d_Mo_multiply_73 hl (k := 0) rfl (by rw [e_x17]; rfl) (by decide) rfl (fun ls hl => ?_)
                    refine lv_goto (tgt := 41) hx hb d_Mo_multiply_76 (by decide) ?_
                    exact ih_41 (i - 1) y2 x17 _ _ _ (by omega) (by rw [e_x17, hi, ← nI_down]; exact pk_sub li) (by have hm := hm_41; omega) hI (lv_sub hl [0, 1, 2, 3] rfl)
              exact L_41 _ 15 x4 15 _ _ _ (by decide) rfl (Nat.lt_succ_self _) hI (lv_sub hl [0, 1, 2, 3] rfl)
        exact L_24 _ 128 127 _ _ _ (by decide) rfl (Nat.lt_succ_self _) hI (lv_sub hl [0, 1] rfl)
      · have ln : n < 16 := nb_lt (n := 16) hn c_5 (by decide) (z_31 bn)
        refine lv_aload_n hx hb d_Mo_multiply_8 rfl (lv_at hl 1 rfl) ?_
        refine gw_get M hK hI hM.O i_Mo rfl 28 (by decide) f_Mo_84 rfl (Pv := fun v => v = .ref (q 28)) (fun x hx => ⟨_, _, hx, rfl, rfl⟩) d_Mo_multiply_9 (fun v hv => ?_)
        subst hv
        refine lv_iload_n hx hb d_Mo_multiply_12 rfl (lv_at hl 0 rfl) ?_
        refine lv_iconst (v := 0) hx hb d_Mo_multiply_13 (by decide) ?_
        refine gw_iast M hK hI hM.k28 (nb_in hn ln) (show uN 0 < 256 by decide) d_Mo_multiply_14 (fun H locs hI => ?_)
        obtain ⟨x18, e_x18⟩ : ∃ ww9 : Int32, ww9 = y1 + 1 := ⟨_, rfl⟩
        refine lv_iinc (v := x18) (lv' := [(1, .int x18), (0, .ref o)]) hx hb d_Mo_multiply_15 hl (k := 0) rfl (by rw [e_x18]; rfl) (by decide) rfl (fun ls hl => ?_)
        refine lv_goto (tgt := 2) hx hb d_Mo_multiply_18 (by decide) ?_
        exact ih_2 (n + 1) x18 _ _ _ ln (nb_s e_x18 hn) (z_m hm_2 ln) hI (lv_sub hl [0, 1] rfl)
  exact L_2 _ 0 0 _ _ _ (Nat.zero_le _) rfl (Nat.lt_succ_self _) hI (lv_sub hl [0, 1] rfl)

abbrev rm_Mo_meet : Room := { frames := 2, cells := 0, slots := 0, locals := 44 }
set_option maxHeartbeats 4000000 in
set_option maxRecDepth 100000 in
theorem c_Mo_meet (l : Launch) {D : gw_D} {Hs : Heap} {G : gw_G} (o : Nat) (q : Nat → Nat) (B : Nat) (t0 : Int32) (f0 l0 g0 : Nat) (fu fn fx fi : Nat → Int32) (fl : Nat → Int64) (hM : mdl D G o q B t0 f0 l0 g0 fu fn fx fi fl) (a1 a2 : Int32) (k1 : Nat) (ha1 : a1 = nI k1) (hk1 : k1 ≤ 300) (h_a2 : by8 a2) : Met l y_Mo_meet (Cond.code y_Mo_meet b_Mo_meet 3 none :: tb) rm_Mo_meet (gw_Pc D Hs G [.ref o, .int a1, .int a2]) (gw_Qv D Hs (fun G1 => G1 = G)) 0 0 (gw_A Hs) := by
  refine gw_met (by decide) (Nat.le_of_ble_eq_true rfl) ?_
  intro p e s m args below meth c M hK hr hlo hin hI ls hl
  have hx := M.1
  have hb := M.2.1
  have hl : lv_has ls 3 [(0, .ref o), (1, .int a1), (2, .int a2)] := hl
  have hf : gw_fr (mown o q) G G := gw_fr.rf
  refine lv_aload_n hx hb d_Mo_meet_0 rfl (lv_at hl 0 rfl) ?_
  refine gw_get M hK hI hM.O i_Mo rfl 26 (by decide) f_Mo_78 rfl (Pv := fun v => v = .ref (q 26)) (fun x hx => ⟨_, _, hx, rfl, rfl⟩) d_Mo_meet_1 (fun v hv => ?_)
  subst hv
  refine lv_iload_n hx hb d_Mo_meet_4 rfl (lv_at hl 1 rfl) ?_
  refine lv_bipush (v := 16) hx hb d_Mo_meet_5 (by decide) ?_
  refine lv_irem hx hb d_Mo_meet_7 (by decide) ?_
  refine lv_aload_n hx hb d_Mo_meet_8 rfl (lv_at hl 0 rfl) ?_
  refine gw_get M hK hI hM.O i_Mo rfl 26 (by decide) f_Mo_78 rfl (Pv := fun v => v = .ref (q 26)) (fun x hx => ⟨_, _, hx, rfl, rfl⟩) d_Mo_meet_9 (fun v hv => ?_)
  subst hv
  refine lv_iload_n hx hb d_Mo_meet_12 rfl (lv_at hl 1 rfl) ?_
  refine lv_bipush (v := 16) hx hb d_Mo_meet_13 (by decide) ?_
  refine lv_irem hx hb d_Mo_meet_15 (by decide) ?_
  refine gw_iald M hK hI hM.k26 (nb_in (nb_rem ha1 16) (by omega) (by decide)) d_Mo_meet_16 (fun x1 h_x1 => ?_)
  refine lv_iload_n hx hb d_Mo_meet_17 rfl (lv_at hl 2 rfl) ?_
  refine lv_ixor hx hb d_Mo_meet_18 ?_
  refine lv_topi (fun x2 e_x2 => ?_)
  refine gw_iast M hK hI hM.k26 (nb_in (nb_rem ha1 16) (by omega) (by decide)) (by rw [e_x2]; exact (by8_xor h_x1 h_a2)) d_Mo_meet_19 (fun H locs hI => ?_)
  refine lv_iload_n hx hb d_Mo_meet_20 rfl (lv_at hl 1 rfl) ?_
  refine lv_bipush (v := 16) hx hb d_Mo_meet_21 (by decide) ?_
  refine lv_irem hx hb d_Mo_meet_23 (by decide) ?_
  refine lv_bipush (v := 15) hx hb d_Mo_meet_24 (by decide) ?_
  refine lv_icmp_ne (tgt := 33) hx hb d_Mo_meet_26 (by decide) (fun c_26 => ?_) (fun c_26 => ?_)
  · exact gw_vret M hr hlo hI d_Mo_meet_33 rfl
  · refine lv_aload_n hx hb d_Mo_meet_29 rfl (lv_at hl 0 rfl) ?_
    refine gw_Vv (As := []) (rest := []) M hK hI (c_Mo_multiply l o q B t0 f0 l0 g0 fu fn fx fi fl hM ) k_Mo_multiply m_Mo_116 hM.O (ci := 6) rfl (fun x hx => ⟨_, hx⟩) rfl hl.1 rfl (Nat.le_of_ble_eq_true rfl) ⟨rfl, rfl, ⟨Nat.le_of_ble_eq_true rfl, Nat.le_of_ble_eq_true rfl⟩, ⟨Nat.le_of_ble_eq_true rfl, Nat.le_of_ble_eq_true rfl⟩⟩ d_Mo_meet_30 (fun G9 H locs hw hI => ?_)
    rw [hw] at hI
    exact gw_vret M hr hlo hI d_Mo_meet_33 rfl

abbrev rm_Mo_makeSeal : Room := { frames := 4, cells := 0, slots := 0, locals := 94 }
set_option maxHeartbeats 4000000 in
set_option maxRecDepth 100000 in
theorem c_Mo_makeSeal (l : Launch) {D : gw_D} {Hs : Heap} {G : gw_G} (o : Nat) (q : Nat → Nat) (B : Nat) (t0 : Int32) (f0 l0 g0 : Nat) (fu fn fx fi : Nat → Int32) (fl : Nat → Int64) (hM : mdl D G o q B t0 f0 l0 g0 fu fn fx fi fl) (a1 : Int32) (s1 : Nat) (ha1 : a1 = nI s1) (hs1 : s1 < 16) (n2 : Int64) (a4 : Int32) (b1 : Nat) (ha4 : a4 = nI b1) (hb1 : b1 ≤ 204) : Met l y_Mo_makeSeal (Cond.code y_Mo_makeSeal b_Mo_makeSeal 8 none :: tb) rm_Mo_makeSeal (gw_Pc D Hs G [.ref o, .int a1, .long n2, .int a4]) (gw_Qv D Hs (fun G1 => G1 = G)) 0 0 (gw_A Hs) := by
  refine gw_met (by decide) (Nat.le_of_ble_eq_true rfl) ?_
  intro p e s m args below meth c M hK hr hlo hin hI ls hl
  have hx := M.1
  have hb := M.2.1
  have hl : lv_has ls 8 [(0, .ref o), (1, .int a1), (2, .long n2), (4, .int a4)] := hl
  have hf : gw_fr (mown o q) G G := gw_fr.rf
  refine lv_iconst (v := 0) hx hb d_Mo_makeSeal_0 (by decide) ?_
  refine lv_istore (lv' := [(5, .int 0), (0, .ref o), (1, .int a1), (2, .long n2), (4, .int a4)]) hx hb d_Mo_makeSeal_1 hl (by decide) rfl (fun ls hl => ?_)
  have L_3 : ∀ (n9 : Nat) (k : Nat) (y5 : Int32) (H : Heap) (locs : List Loc) (ls : Array Slot), k ≤ 16 → y5 = nI k → 16 - k < n9 → gw_I D Hs G s.heap H locs → lv_has ls 8 [(5, .int y5), (0, .ref o), (1, .int a1), (2, .long n2), (4, .int a4)] → W p l e rm_Mo_makeSeal s m args below meth c H locs 0 0 (MQ below (gw_Qv D Hs (fun G1 => G1 = G)) args s 0 0 (gw_A Hs)) (F0 m 3 ls []) := by
    intro n9
    induction n9 with
    | zero =>
      intro k y5 H locs ls bk hk hm hI hl
      exact absurd hm (Nat.not_lt_zero _)
    | succ n9 ih_3 =>
      intro k y5 H locs ls bk hk hm_3 hI hl
      refine lv_iload hx hb d_Mo_makeSeal_3 (lv_at hl 0 rfl) ?_
      refine lv_bipush (v := 16) hx hb d_Mo_makeSeal_5 (by decide) ?_
      refine lv_icmp_ge (tgt := 32) hx hb d_Mo_makeSeal_7 (by decide) (fun c_7 => ?_) (fun c_7 => ?_)
      · refine lv_aload_n hx hb d_Mo_makeSeal_32 rfl (lv_at hl 1 rfl) ?_
        refine lv_iload_n hx hb d_Mo_makeSeal_33 rfl (lv_at hl 2 rfl) ?_
        refine gw_Vv (As := [.int a1]) (rest := []) M hK hI (c_Mo_encrypt l o q B t0 f0 l0 g0 fu fn fx fi fl hM a1 s1 ha1 hs1) k_Mo_encrypt m_Mo_108 hM.O (ci := 6) rfl (fun x hx => ⟨_, hx⟩) rfl hl.1 rfl (Nat.le_of_ble_eq_true rfl) ⟨rfl, rfl, ⟨Nat.le_of_ble_eq_true rfl, Nat.le_of_ble_eq_true rfl⟩, ⟨Nat.le_of_ble_eq_true rfl, Nat.le_of_ble_eq_true rfl⟩⟩ d_Mo_makeSeal_34 (fun G9 H locs hw hI => ?_)
        rw [hw] at hI
        refine lv_iconst (v := 0) hx hb d_Mo_makeSeal_37 (by decide) ?_
        refine lv_istore (lv' := [(5, .int 0), (0, .ref o), (1, .int a1), (2, .long n2), (4, .int a4)]) hx hb d_Mo_makeSeal_38 hl (by decide) rfl (fun ls hl => ?_)
        have L_40 : ∀ (n9 : Nat) (i : Nat) (y5 : Int32) (H : Heap) (locs : List Loc) (ls : Array Slot), i ≤ 16 → y5 = nI i → 16 - i < n9 → gw_I D Hs G s.heap H locs → lv_has ls 8 [(5, .int y5), (0, .ref o), (1, .int a1), (2, .long n2), (4, .int a4)] → W p l e rm_Mo_makeSeal s m args below meth c H locs 0 0 (MQ below (gw_Qv D Hs (fun G1 => G1 = G)) args s 0 0 (gw_A Hs)) (F0 m 40 ls []) := by
          intro n9
          induction n9 with
          | zero =>
            intro i y5 H locs ls bi hi hm hI hl
            exact absurd hm (Nat.not_lt_zero _)
          | succ n9 ih_40 =>
            intro i y5 H locs ls bi hi hm_40 hI hl
            refine lv_iload hx hb d_Mo_makeSeal_40 (lv_at hl 0 rfl) ?_
            refine lv_bipush (v := 16) hx hb d_Mo_makeSeal_42 (by decide) ?_
            refine lv_icmp_ge (tgt := 67) hx hb d_Mo_makeSeal_44 (by decide) (fun c_44 => ?_) (fun c_44 => ?_)
            · refine lv_aload_n hx hb d_Mo_makeSeal_67 rfl (lv_at hl 1 rfl) ?_
              refine gw_get M hK hI hM.O i_Mo rfl 7 (by decide) f_Mo_29 rfl (Pv := fun v => v = .ref (q 7)) (fun x hx => ⟨_, _, hx, rfl, rfl⟩) d_Mo_makeSeal_68 (fun v hv => ?_)
              subst hv
              refine lv_iload_n hx hb d_Mo_makeSeal_71 rfl (lv_at hl 2 rfl) ?_
              refine gw_zaldx M hK hI hM.k7 (nb_in ha1 hs1) d_Mo_makeSeal_72 ?_
              rw [show (a1).toNatClampNeg = s1 from (nb_cl ha1)]
              have J_83 : ∀ (j83 : Int32) (H : Heap) (locs : List Loc) (ls : Array Slot), gw_I D Hs G s.heap H locs → lv_has ls 8 [(5, .int y5), (0, .ref o), (1, .int a1), (2, .long n2), (4, .int a4)] → W p l e rm_Mo_makeSeal s m args below meth c H locs 0 0 (MQ below (gw_Qv D Hs (fun G1 => G1 = G)) args s 0 0 (gw_A Hs)) (F0 m 83 ls [.int j83]) := by
                intro j83 H locs ls  hI hl
                refine lv_istore (lv' := [(5, .int j83), (0, .ref o), (1, .int a1), (2, .long n2), (4, .int a4)]) hx hb d_Mo_makeSeal_83 hl (by decide) rfl (fun ls hl => ?_)
                refine lv_iconst (v := 0) hx hb d_Mo_makeSeal_85 (by decide) ?_
                refine lv_istore (lv' := [(6, .int 0), (5, .int j83), (0, .ref o), (1, .int a1), (2, .long n2), (4, .int a4)]) hx hb d_Mo_makeSeal_86 hl (by decide) rfl (fun ls hl => ?_)
                have L_88 : ∀ (n9 : Nat) (j : Nat) (y6 : Int32) (H : Heap) (locs : List Loc) (ls : Array Slot), j ≤ 16 → y6 = nI j → 16 - j < n9 → gw_I D Hs G s.heap H locs → lv_has ls 8 [(6, .int y6), (5, .int j83), (0, .ref o), (1, .int a1), (2, .long n2), (4, .int a4)] → W p l e rm_Mo_makeSeal s m args below meth c H locs 0 0 (MQ below (gw_Qv D Hs (fun G1 => G1 = G)) args s 0 0 (gw_A Hs)) (F0 m 88 ls []) := by
                  intro n9
                  induction n9 with
                  | zero =>
                    intro j y6 H locs ls bj hj hm hI hl
                    exact absurd hm (Nat.not_lt_zero _)
                  | succ n9 ih_88 =>
                    intro j y6 H locs ls bj hj hm_88 hI hl
                    refine lv_iload hx hb d_Mo_makeSeal_88 (lv_at hl 0 rfl) ?_
                    refine lv_bipush (v := 16) hx hb d_Mo_makeSeal_90 (by decide) ?_
                    refine lv_icmp_ge (tgt := 173) hx hb d_Mo_makeSeal_92 (by decide) (fun c_92 => ?_) (fun c_92 => ?_)
                    · refine lv_iconst (v := 0) hx hb d_Mo_makeSeal_173 (by decide) ?_
                      refine lv_istore (lv' := [(6, .int 0), (5, .int j83), (0, .ref o), (1, .int a1), (2, .long n2), (4, .int a4)]) hx hb d_Mo_makeSeal_174 hl (by decide) rfl (fun ls hl => ?_)
                      have L_176 : ∀ (n9 : Nat) (i2 : Nat) (y6 : Int32) (H : Heap) (locs : List Loc) (ls : Array Slot), i2 ≤ 208 → y6 = nI i2 → 208 - i2 < n9 → gw_I D Hs G s.heap H locs → lv_has ls 8 [(6, .int y6), (5, .int j83), (0, .ref o), (1, .int a1), (2, .long n2), (4, .int a4)] → W p l e rm_Mo_makeSeal s m args below meth c H locs 0 0 (MQ below (gw_Qv D Hs (fun G1 => G1 = G)) args s 0 0 (gw_A Hs)) (F0 m 176 ls []) := by
                        intro n9
                        induction n9 with
                        | zero =>
                          intro i2 y6 H locs ls bi2 hi2 hm hI hl
                          exact absurd hm (Nat.not_lt_zero _)
                        | succ n9 ih_176 =>
                          intro i2 y6 H locs ls bi2 hi2 hm_176 hI hl
                          refine lv_iload hx hb d_Mo_makeSeal_176 (lv_at hl 0 rfl) ?_
                          refine lv_iload hx hb d_Mo_makeSeal_178 (lv_at hl 5 rfl) ?_
                          refine lv_icmp_lt (tgt := 191) hx hb d_Mo_makeSeal_180 (by decide) (fun c_180 => ?_) (fun c_180 => ?_)
                          · have l208 : i2 < 208 := by have h9 := nb_lt' (n := b1) hi2 (by rw [← ha4]; exact c_180) (by omega) (by omega); omega
                            refine lv_aload_n hx hb d_Mo_makeSeal_191 rfl (lv_at hl 2 rfl) ?_
                            refine lv_iload hx hb d_Mo_makeSeal_192 (lv_at hl 0 rfl) ?_
                            refine lv_iload hx hb d_Mo_makeSeal_194 (lv_at hl 0 rfl) ?_
                            refine lv_iload hx hb d_Mo_makeSeal_196 (lv_at hl 5 rfl) ?_
                            refine lv_icmp_ge (tgt := 214) hx hb d_Mo_makeSeal_198 (by decide) (fun c_198 => ?_) (fun c_198 => ?_)
                            · refine lv_iconst (v := 0) hx hb d_Mo_makeSeal_214 (by decide) ?_
                              refine gw_Vv (As := [.int y6, .int 0]) (rest := []) M hK hI (c_Mo_meet l o q B t0 f0 l0 g0 fu fn fx fi fl hM y6 (0 : Int32) i2 hi2 (by omega) (show uN 0 < 256 by decide)) k_Mo_meet m_Mo_123 hM.O (ci := 6) rfl (fun x hx => ⟨_, hx⟩) rfl hl.1 rfl (Nat.le_of_ble_eq_true rfl) ⟨rfl, rfl, ⟨Nat.le_of_ble_eq_true rfl, Nat.le_of_ble_eq_true rfl⟩, ⟨Nat.le_of_ble_eq_true rfl, Nat.le_of_ble_eq_true rfl⟩⟩ d_Mo_makeSeal_215 (fun G9 H locs hw hI => ?_)
                              rw [hw] at hI
                              obtain ⟨x3, e_x3⟩ : ∃ ww9 : Int32, ww9 = y6 + 1 := ⟨_, rfl⟩
                              refine lv_iinc (v := x3) (lv' := [(6, .int x3), (5, .int j83), (0, .ref o), (1, .int a1), (2, .long n2), (4, .int a4)]) hx hb d_Mo_makeSeal_218 hl (k := 0) rfl (by rw [e_x3]; rfl) (by decide) rfl (fun ls hl => ?_)
                              refine lv_goto (tgt := 176) hx hb d_Mo_makeSeal_221 (by decide) ?_
                              exact ih_176 (i2 + 1) x3 _ _ _ l208 (nb_s e_x3 hi2) (z_m hm_176 l208) hI (lv_sub hl [0, 1, 2, 3, 4, 5] rfl)
                            · have lb : i2 < b1 := nb_lt (n := b1) hi2 (by rw [← ha4]; exact c_198) (by omega) (by omega)
                              refine lv_aload_n hx hb d_Mo_makeSeal_201 rfl (lv_at hl 2 rfl) ?_
                              refine gw_get M hK hI hM.O i_Mo rfl 18 (by decide) f_Mo_60 rfl (Pv := fun v => v = .ref (q 18)) (fun x hx => ⟨_, _, hx, rfl, rfl⟩) d_Mo_makeSeal_202 (fun v hv => ?_)
                              subst hv
                              refine lv_bipush (v := 16) hx hb d_Mo_makeSeal_205 (by decide) ?_
                              refine lv_iload hx hb d_Mo_makeSeal_207 (lv_at hl 0 rfl) ?_
                              refine lv_iadd hx hb d_Mo_makeSeal_209 ?_
                              refine gw_iald M hK hI hM.k18 (nb_in (nb_aa (k := 16) rfl hi2) (by omega) (by decide)) d_Mo_makeSeal_210 (fun x4 h_x4 => ?_)
                              refine lv_goto (tgt := 215) hx hb d_Mo_makeSeal_211 (by decide) ?_
                              refine gw_Vv (As := [.int y6, .int x4]) (rest := []) M hK hI (c_Mo_meet l o q B t0 f0 l0 g0 fu fn fx fi fl hM y6 x4 i2 hi2 (by omega) h_x4) k_Mo_meet m_Mo_123 hM.O (ci := 6) rfl (fun x hx => ⟨_, hx⟩) rfl hl.1 rfl (Nat.le_of_ble_eq_true rfl) ⟨rfl, rfl, ⟨Nat.le_of_ble_eq_true rfl, Nat.le_of_ble_eq_true rfl⟩, ⟨Nat.le_of_ble_eq_true rfl, Nat.le_of_ble_eq_true rfl⟩⟩ d_Mo_makeSeal_215 (fun G9 H locs hw hI => ?_)
                              rw [hw] at hI
                              obtain ⟨x6, e_x6⟩ : ∃ ww9 : Int32, ww9 = y6 + 1 := ⟨_, rfl⟩
                              refine lv_iinc (v := x6) (lv' := [(6, .int x6), (5, .int j83), (0, .ref o), (1, .int a1), (2, .long n2), (4, .int a4)]) hx hb d_Mo_makeSeal_218 hl (k := 0) rfl (by rw [e_x6]; rfl) (by decide) rfl (fun ls hl => ?_)
                              refine lv_goto (tgt := 176) hx hb d_Mo_makeSeal_221 (by decide) ?_
                              exact ih_176 (i2 + 1) x6 _ _ _ l208 (nb_s e_x6 hi2) (z_m hm_176 l208) hI (lv_sub hl [0, 1, 2, 3, 4, 5] rfl)
                          · refine lv_iload hx hb d_Mo_makeSeal_183 (lv_at hl 0 rfl) ?_
                            refine lv_bipush (v := 16) hx hb d_Mo_makeSeal_185 (by decide) ?_
                            refine lv_irem hx hb d_Mo_makeSeal_187 (by decide) ?_
                            refine lv_if_eq (tgt := 224) hx hb d_Mo_makeSeal_188 (by decide) (fun c_188 => ?_) (fun c_188 => ?_)
                            · refine lv_iconst (v := 0) hx hb d_Mo_makeSeal_224 (by decide) ?_
                              refine lv_istore (lv' := [(6, .int 0), (5, .int j83), (0, .ref o), (1, .int a1), (2, .long n2), (4, .int a4)]) hx hb d_Mo_makeSeal_225 hl (by decide) rfl (fun ls hl => ?_)
                              have L_227 : ∀ (n9 : Nat) (j2 : Nat) (y6 : Int32) (H : Heap) (locs : List Loc) (ls : Array Slot), j2 ≤ 16 → y6 = nI j2 → 16 - j2 < n9 → gw_I D Hs G s.heap H locs → lv_has ls 8 [(6, .int y6), (5, .int j83), (0, .ref o), (1, .int a1), (2, .long n2), (4, .int a4)] → W p l e rm_Mo_makeSeal s m args below meth c H locs 0 0 (MQ below (gw_Qv D Hs (fun G1 => G1 = G)) args s 0 0 (gw_A Hs)) (F0 m 227 ls []) := by
                                intro n9
                                induction n9 with
                                | zero =>
                                  intro j2 y6 H locs ls bj2 hj2 hm hI hl
                                  exact absurd hm (Nat.not_lt_zero _)
                                | succ n9 ih_227 =>
                                  intro j2 y6 H locs ls bj2 hj2 hm_227 hI hl
                                  refine lv_iload hx hb d_Mo_makeSeal_227 (lv_at hl 0 rfl) ?_
                                  refine lv_bipush (v := 16) hx hb d_Mo_makeSeal_229 (by decide) ?_
                                  refine lv_icmp_ge (tgt := 283) hx hb d_Mo_makeSeal_231 (by decide) (fun c_231 => ?_) (fun c_231 => ?_)
                                  · refine lv_aload_n hx hb d_Mo_makeSeal_283 rfl (lv_at hl 2 rfl) ?_
                                    refine lv_iload_n hx hb d_Mo_makeSeal_284 rfl (lv_at hl 3 rfl) ?_
                                    refine lv_iconst (v := 1) hx hb d_Mo_makeSeal_285 (by decide) ?_
                                    refine gw_Vv (As := [.int a1, .int 1]) (rest := []) M hK hI (c_Mo_counted l o q B t0 f0 l0 g0 fu fn fx fi fl hM a1 s1 ha1 hs1 (1 : Int32)) k_Mo_counted m_Mo_128 hM.O (ci := 6) rfl (fun x hx => ⟨_, hx⟩) rfl hl.1 rfl (Nat.le_of_ble_eq_true rfl) ⟨rfl, rfl, ⟨Nat.le_of_ble_eq_true rfl, Nat.le_of_ble_eq_true rfl⟩, ⟨Nat.le_of_ble_eq_true rfl, Nat.le_of_ble_eq_true rfl⟩⟩ d_Mo_makeSeal_286 (fun G9 H locs hw hI => ?_)
                                    rw [hw] at hI
                                    refine lv_iconst (v := 0) hx hb d_Mo_makeSeal_289 (by decide) ?_
                                    refine lv_istore (lv' := [(6, .int 0), (5, .int j83), (0, .ref o), (1, .int a1), (2, .long n2), (4, .int a4)]) hx hb d_Mo_makeSeal_290 hl (by decide) rfl (fun ls hl => ?_)
                                    have L_292 : ∀ (n9 : Nat) (k2 : Nat) (y6 : Int32) (H : Heap) (locs : List Loc) (ls : Array Slot), k2 ≤ 16 → y6 = nI k2 → 16 - k2 < n9 → gw_I D Hs G s.heap H locs → lv_has ls 8 [(6, .int y6), (0, .ref o), (1, .int a1), (2, .long n2), (4, .int a4)] → W p l e rm_Mo_makeSeal s m args below meth c H locs 0 0 (MQ below (gw_Qv D Hs (fun G1 => G1 = G)) args s 0 0 (gw_A Hs)) (F0 m 292 ls []) := by
                                      intro n9
                                      induction n9 with
                                      | zero =>
                                        intro k2 y6 H locs ls bk2 hk2 hm hI hl
                                        exact absurd hm (Nat.not_lt_zero _)
                                      | succ n9 ih_292 =>
                                        intro k2 y6 H locs ls bk2 hk2 hm_292 hI hl
                                        refine lv_iload hx hb d_Mo_makeSeal_292 (lv_at hl 0 rfl) ?_
                                        refine lv_bipush (v := 16) hx hb d_Mo_makeSeal_294 (by decide) ?_
                                        refine lv_icmp_ge (tgt := 327) hx hb d_Mo_makeSeal_296 (by decide) (fun c_296 => ?_) (fun c_296 => ?_)
                                        · exact gw_vret M hr hlo hI d_Mo_makeSeal_327 rfl
                                        · have lk2 : k2 < 16 := nb_lt (n := 16) hk2 c_296 (by decide) (z_31 bk2)
                                          refine lv_aload_n hx hb d_Mo_makeSeal_299 rfl (lv_at hl 1 rfl) ?_
                                          refine gw_get M hK hI hM.O i_Mo rfl 29 (by decide) f_Mo_87 rfl (Pv := fun v => v = .ref (q 29)) (fun x hx => ⟨_, _, hx, rfl, rfl⟩) d_Mo_makeSeal_300 (fun v hv => ?_)
                                          subst hv
                                          refine lv_iload hx hb d_Mo_makeSeal_303 (lv_at hl 0 rfl) ?_
                                          refine lv_aload_n hx hb d_Mo_makeSeal_305 rfl (lv_at hl 1 rfl) ?_
                                          refine gw_get M hK hI hM.O i_Mo rfl 26 (by decide) f_Mo_78 rfl (Pv := fun v => v = .ref (q 26)) (fun x hx => ⟨_, _, hx, rfl, rfl⟩) d_Mo_makeSeal_306 (fun v hv => ?_)
                                          subst hv
                                          refine lv_iload hx hb d_Mo_makeSeal_309 (lv_at hl 0 rfl) ?_
                                          refine gw_iald M hK hI hM.k26 (nb_in hk2 lk2) d_Mo_makeSeal_311 (fun x8 h_x8 => ?_)
                                          refine lv_aload_n hx hb d_Mo_makeSeal_312 rfl (lv_at hl 1 rfl) ?_
                                          refine gw_get M hK hI hM.O i_Mo rfl 24 (by decide) f_Mo_72 rfl (Pv := fun v => v = .ref (q 24)) (fun x hx => ⟨_, _, hx, rfl, rfl⟩) d_Mo_makeSeal_313 (fun v hv => ?_)
                                          subst hv
                                          refine lv_iload hx hb d_Mo_makeSeal_316 (lv_at hl 0 rfl) ?_
                                          refine gw_iald M hK hI hM.k24 (nb_in hk2 lk2) d_Mo_makeSeal_318 (fun x9 h_x9 => ?_)
                                          refine lv_ixor hx hb d_Mo_makeSeal_319 ?_
                                          refine lv_topi (fun x10 e_x10 => ?_)
                                          refine gw_iast M hK hI hM.k29 (nb_in hk2 lk2) (by rw [e_x10]; exact (by8_xor h_x8 h_x9)) d_Mo_makeSeal_320 (fun H locs hI => ?_)
                                          obtain ⟨x11, e_x11⟩ : ∃ ww9 : Int32, ww9 = y6 + 1 := ⟨_, rfl⟩
                                          refine lv_iinc (v := x11) (lv' := [(6, .int x11), (0, .ref o), (1, .int a1), (2, .long n2), (4, .int a4)]) hx hb d_Mo_makeSeal_321 hl (k := 0) rfl (by rw [e_x11]; rfl) (by decide) rfl (fun ls hl => ?_)
                                          refine lv_goto (tgt := 292) hx hb d_Mo_makeSeal_324 (by decide) ?_
                                          exact ih_292 (k2 + 1) x11 _ _ _ lk2 (nb_s e_x11 hk2) (z_m hm_292 lk2) hI (lv_sub hl [0, 1, 2, 3, 4] rfl)
                                    exact L_292 _ 0 0 _ _ _ (Nat.zero_le _) rfl (Nat.lt_succ_self _) hI (lv_sub hl [0, 2, 3, 4, 5] rfl)
                                  · have lj2 : j2 < 16 := nb_lt (n := 16) hj2 c_231 (by decide) (z_31 bj2)
                                    refine lv_aload_n hx hb d_Mo_makeSeal_234 rfl (lv_at hl 2 rfl) ?_
                                    refine lv_iload hx hb d_Mo_makeSeal_235 (lv_at hl 0 rfl) ?_
                                    refine lv_iload hx hb d_Mo_makeSeal_237 (lv_at hl 0 rfl) ?_
                                    refine lv_bipush (v := 8) hx hb d_Mo_makeSeal_239 (by decide) ?_
                                    refine lv_icmp_ge (tgt := 259) hx hb d_Mo_makeSeal_241 (by decide) (fun c_241 => ?_) (fun c_241 => ?_)
                                    · refine lv_ldc2 (v := 8) hx hb M.2.2.2.1 (M.2.2.2.2 _ o_Mo_126) d_Mo_makeSeal_259 ?_
                                      refine lv_iload hx hb d_Mo_makeSeal_262 (lv_at hl 5 rfl) ?_
                                      refine lv_i2l hx hb d_Mo_makeSeal_264 rfl ?_
                                      refine lv_lmul hx hb d_Mo_makeSeal_265 ?_
                                      refine lv_iload hx hb d_Mo_makeSeal_266 (lv_at hl 0 rfl) ?_
                                      refine lv_bipush (v := 8) hx hb d_Mo_makeSeal_268 (by decide) ?_
                                      refine lv_isub hx hb d_Mo_makeSeal_270 ?_
                                      refine gw_Si (As := [.long ((8 : Int64) * ((a4).toInt64)), .int (y6 - (8 : Int32))]) (rest := [.int y6, .ref o]) M hK hI (c_Mo_byteOf l ((8 : Int64) * ((a4).toInt64)) (y6 - (8 : Int32))) k_Mo_byteOf m_Mo_119 rfl hl.1 rfl (Nat.le_of_ble_eq_true rfl) ⟨rfl, rfl, ⟨Nat.le_of_ble_eq_true rfl, Nat.le_of_ble_eq_true rfl⟩, ⟨Nat.le_of_ble_eq_true rfl, Nat.le_of_ble_eq_true rfl⟩⟩ d_Mo_makeSeal_271 (fun x12 G9 H locs hw hI => ?_)
                                      obtain ⟨h_x12, hw⟩ := hw
                                      rw [hw] at hI
                                      refine gw_Vv (As := [.int y6, .int x12]) (rest := []) M hK hI (c_Mo_meet l o q B t0 f0 l0 g0 fu fn fx fi fl hM y6 x12 j2 hj2 (by omega) h_x12) k_Mo_meet m_Mo_123 hM.O (ci := 6) rfl (fun x hx => ⟨_, hx⟩) rfl hl.1 rfl (Nat.le_of_ble_eq_true rfl) ⟨rfl, rfl, ⟨Nat.le_of_ble_eq_true rfl, Nat.le_of_ble_eq_true rfl⟩, ⟨Nat.le_of_ble_eq_true rfl, Nat.le_of_ble_eq_true rfl⟩⟩ d_Mo_makeSeal_274 (fun G9 H locs hw hI => ?_)
                                      rw [hw] at hI
                                      obtain ⟨x14, e_x14⟩ : ∃ ww9 : Int32, ww9 = y6 + 1 := ⟨_, rfl⟩
                                      refine lv_iinc (v := x14) (lv' := [(6, .int x14), (5, .int j83), (0, .ref o), (1, .int a1), (2, .long n2), (4, .int a4)]) hx hb d_Mo_makeSeal_277 hl (k := 0) rfl (by rw [e_x14]; rfl) (by decide) rfl (fun ls hl => ?_)
                                      refine lv_goto (tgt := 227) hx hb d_Mo_makeSeal_280 (by decide) ?_
                                      exact ih_227 (j2 + 1) x14 _ _ _ lj2 (nb_s e_x14 hj2) (z_m hm_227 lj2) hI (lv_sub hl [0, 1, 2, 3, 4, 5] rfl)
                                    · refine lv_ldc2 (v := 8) hx hb M.2.2.2.1 (M.2.2.2.2 _ o_Mo_126) d_Mo_makeSeal_244 ?_
                                      refine lv_iload hx hb d_Mo_makeSeal_247 (lv_at hl 1 rfl) ?_
                                      refine lv_i2l hx hb d_Mo_makeSeal_249 rfl ?_
                                      refine lv_lmul hx hb d_Mo_makeSeal_250 ?_
                                      refine lv_iload hx hb d_Mo_makeSeal_251 (lv_at hl 0 rfl) ?_
                                      refine gw_Si (As := [.long ((8 : Int64) * ((j83).toInt64)), .int y6]) (rest := [.int y6, .ref o]) M hK hI (c_Mo_byteOf l ((8 : Int64) * ((j83).toInt64)) y6) k_Mo_byteOf m_Mo_119 rfl hl.1 rfl (Nat.le_of_ble_eq_true rfl) ⟨rfl, rfl, ⟨Nat.le_of_ble_eq_true rfl, Nat.le_of_ble_eq_true rfl⟩, ⟨Nat.le_of_ble_eq_true rfl, Nat.le_of_ble_eq_true rfl⟩⟩ d_Mo_makeSeal_253 (fun x15 G9 H locs hw hI => ?_)
                                      obtain ⟨h_x15, hw⟩ := hw
                                      rw [hw] at hI
                                      refine lv_goto (tgt := 274) hx hb d_Mo_makeSeal_256 (by decide) ?_
                                      refine gw_Vv (As := [.int y6, .int x15]) (rest := []) M hK hI (c_Mo_meet l o q B t0 f0 l0 g0 fu fn fx fi fl hM y6 x15 j2 hj2 (by omega) h_x15) k_Mo_meet m_Mo_123 hM.O (ci := 6) rfl (fun x hx => ⟨_, hx⟩) rfl hl.1 rfl (Nat.le_of_ble_eq_true rfl) ⟨rfl, rfl, ⟨Nat.le_of_ble_eq_true rfl, Nat.le_of_ble_eq_true rfl⟩, ⟨Nat.le_of_ble_eq_true rfl, Nat.le_of_ble_eq_true rfl⟩⟩ d_Mo_makeSeal_274 (fun G9 H locs hw hI => ?_)
                                      rw [hw] at hI
                                      obtain ⟨x17, e_x17⟩ : ∃ ww9 : Int32, ww9 = y6 + 1 := ⟨_, rfl⟩
                                      refine lv_iinc (v := x17) (lv' := [(6, .int x17), (5, .int j83), (0, .ref o), (1, .int a1), (2, .long n2), (4, .int a4)]) hx hb d_Mo_makeSeal_277 hl (k := 0) rfl (by rw [e_x17]; rfl) (by decide) rfl (fun ls hl => ?_)
                                      refine lv_goto (tgt := 227) hx hb d_Mo_makeSeal_280 (by decide) ?_
                                      exact ih_227 (j2 + 1) x17 _ _ _ lj2 (nb_s e_x17 hj2) (z_m hm_227 lj2) hI (lv_sub hl [0, 1, 2, 3, 4, 5] rfl)
                              exact L_227 _ 0 0 _ _ _ (Nat.zero_le _) rfl (Nat.lt_succ_self _) hI (lv_sub hl [0, 1, 2, 3, 4, 5] rfl)
                            · have l208 : i2 < 208 := by
                                rcases Nat.lt_or_ge i2 208 with q | q
                                · exact q
                                · exact absurd (by rw [hi2, show i2 = 208 from by omega]; decide) c_188
                              refine lv_aload_n hx hb d_Mo_makeSeal_191 rfl (lv_at hl 2 rfl) ?_
                              refine lv_iload hx hb d_Mo_makeSeal_192 (lv_at hl 0 rfl) ?_
                              refine lv_iload hx hb d_Mo_makeSeal_194 (lv_at hl 0 rfl) ?_
                              refine lv_iload hx hb d_Mo_makeSeal_196 (lv_at hl 5 rfl) ?_
                              refine lv_icmp_ge (tgt := 214) hx hb d_Mo_makeSeal_198 (by decide) (fun c_198 => ?_) (fun c_198 => ?_)
                              · refine lv_iconst (v := 0) hx hb d_Mo_makeSeal_214 (by decide) ?_
                                refine gw_Vv (As := [.int y6, .int 0]) (rest := []) M hK hI (c_Mo_meet l o q B t0 f0 l0 g0 fu fn fx fi fl hM y6 (0 : Int32) i2 hi2 (by omega) (show uN 0 < 256 by decide)) k_Mo_meet m_Mo_123 hM.O (ci := 6) rfl (fun x hx => ⟨_, hx⟩) rfl hl.1 rfl (Nat.le_of_ble_eq_true rfl) ⟨rfl, rfl, ⟨Nat.le_of_ble_eq_true rfl, Nat.le_of_ble_eq_true rfl⟩, ⟨Nat.le_of_ble_eq_true rfl, Nat.le_of_ble_eq_true rfl⟩⟩ d_Mo_makeSeal_215 (fun G9 H locs hw hI => ?_)
                                rw [hw] at hI
                                obtain ⟨x19, e_x19⟩ : ∃ ww9 : Int32, ww9 = y6 + 1 := ⟨_, rfl⟩
                                refine lv_iinc (v := x19) (lv' := [(6, .int x19), (5, .int j83), (0, .ref o), (1, .int a1), (2, .long n2), (4, .int a4)]) hx hb d_Mo_makeSeal_218 hl (k := 0) rfl (by rw [e_x19]; rfl) (by decide) rfl (fun ls hl => ?_)
                                refine lv_goto (tgt := 176) hx hb d_Mo_makeSeal_221 (by decide) ?_
                                exact ih_176 (i2 + 1) x19 _ _ _ l208 (nb_s e_x19 hi2) (z_m hm_176 l208) hI (lv_sub hl [0, 1, 2, 3, 4, 5] rfl)
                              · have lb : i2 < b1 := nb_lt (n := b1) hi2 (by rw [← ha4]; exact c_198) (by omega) (by omega)
                                refine lv_aload_n hx hb d_Mo_makeSeal_201 rfl (lv_at hl 2 rfl) ?_
                                refine gw_get M hK hI hM.O i_Mo rfl 18 (by decide) f_Mo_60 rfl (Pv := fun v => v = .ref (q 18)) (fun x hx => ⟨_, _, hx, rfl, rfl⟩) d_Mo_makeSeal_202 (fun v hv => ?_)
                                subst hv
                                refine lv_bipush (v := 16) hx hb d_Mo_makeSeal_205 (by decide) ?_
                                refine lv_iload hx hb d_Mo_makeSeal_207 (lv_at hl 0 rfl) ?_
                                refine lv_iadd hx hb d_Mo_makeSeal_209 ?_
                                refine gw_iald M hK hI hM.k18 (nb_in (nb_aa (k := 16) rfl hi2) (by omega) (by decide)) d_Mo_makeSeal_210 (fun x20 h_x20 => ?_)
                                refine lv_goto (tgt := 215) hx hb d_Mo_makeSeal_211 (by decide) ?_
                                refine gw_Vv (As := [.int y6, .int x20]) (rest := []) M hK hI (c_Mo_meet l o q B t0 f0 l0 g0 fu fn fx fi fl hM y6 x20 i2 hi2 (by omega) h_x20) k_Mo_meet m_Mo_123 hM.O (ci := 6) rfl (fun x hx => ⟨_, hx⟩) rfl hl.1 rfl (Nat.le_of_ble_eq_true rfl) ⟨rfl, rfl, ⟨Nat.le_of_ble_eq_true rfl, Nat.le_of_ble_eq_true rfl⟩, ⟨Nat.le_of_ble_eq_true rfl, Nat.le_of_ble_eq_true rfl⟩⟩ d_Mo_makeSeal_215 (fun G9 H locs hw hI => ?_)
                                rw [hw] at hI
                                obtain ⟨x22, e_x22⟩ : ∃ ww9 : Int32, ww9 = y6 + 1 := ⟨_, rfl⟩
                                refine lv_iinc (v := x22) (lv' := [(6, .int x22), (5, .int j83), (0, .ref o), (1, .int a1), (2, .long n2), (4, .int a4)]) hx hb d_Mo_makeSeal_218 hl (k := 0) rfl (by rw [e_x22]; rfl) (by decide) rfl (fun ls hl => ?_)
                                refine lv_goto (tgt := 176) hx hb d_Mo_makeSeal_221 (by decide) ?_
                                exact ih_176 (i2 + 1) x22 _ _ _ l208 (nb_s e_x22 hi2) (z_m hm_176 l208) hI (lv_sub hl [0, 1, 2, 3, 4, 5] rfl)
                      exact L_176 _ 0 0 _ _ _ (Nat.zero_le _) rfl (Nat.lt_succ_self _) hI (lv_sub hl [0, 1, 2, 3, 4, 5] rfl)
                    · have lj : j < 16 := nb_lt (n := 16) hj c_92 (by decide) (z_31 bj)
                      refine lv_iload hx hb d_Mo_makeSeal_95 (lv_at hl 0 rfl) ?_
                      refine lv_iconst (v := 4) hx hb d_Mo_makeSeal_97 (by decide) ?_
                      have J_157 : ∀ (j157 : Int32) (H : Heap) (locs : List Loc) (ls : Array Slot), by8 j157 → gw_I D Hs G s.heap H locs → lv_has ls 8 [(6, .int y6), (5, .int j83), (0, .ref o), (1, .int a1), (2, .long n2), (4, .int a4)] → W p l e rm_Mo_makeSeal s m args below meth c H locs 0 0 (MQ below (gw_Qv D Hs (fun G1 => G1 = G)) args s 0 0 (gw_A Hs)) (F0 m 157 ls [.int j157]) := by
                        intro j157 H locs ls h_j157 hI hl
                        refine lv_istore (lv' := [(7, .int j157), (6, .int y6), (5, .int j83), (0, .ref o), (1, .int a1), (2, .long n2), (4, .int a4)]) hx hb d_Mo_makeSeal_157 hl (by decide) rfl (fun ls hl => ?_)
                        refine lv_aload_n hx hb d_Mo_makeSeal_159 rfl (lv_at hl 3 rfl) ?_
                        refine lv_iload hx hb d_Mo_makeSeal_160 (lv_at hl 1 rfl) ?_
                        refine lv_iload hx hb d_Mo_makeSeal_162 (lv_at hl 0 rfl) ?_
                        refine gw_Vv (As := [.int y6, .int j157]) (rest := []) M hK hI (c_Mo_meet l o q B t0 f0 l0 g0 fu fn fx fi fl hM y6 j157 j hj (by omega) h_j157) k_Mo_meet m_Mo_123 hM.O (ci := 6) rfl (fun x hx => ⟨_, hx⟩) rfl hl.1 rfl (Nat.le_of_ble_eq_true rfl) ⟨rfl, rfl, ⟨Nat.le_of_ble_eq_true rfl, Nat.le_of_ble_eq_true rfl⟩, ⟨Nat.le_of_ble_eq_true rfl, Nat.le_of_ble_eq_true rfl⟩⟩ d_Mo_makeSeal_164 (fun G9 H locs hw hI => ?_)
                        rw [hw] at hI
                        obtain ⟨x24, e_x24⟩ : ∃ ww9 : Int32, ww9 = y6 + 1 := ⟨_, rfl⟩
                        refine lv_iinc (v := x24) (lv' := [(6, .int x24), (7, .int j157), (5, .int j83), (0, .ref o), (1, .int a1), (2, .long n2), (4, .int a4)]) hx hb d_Mo_makeSeal_167 hl (k := 1) rfl (by rw [e_x24]; rfl) (by decide) rfl (fun ls hl => ?_)
                        refine lv_goto (tgt := 88) hx hb d_Mo_makeSeal_170 (by decide) ?_
                        exact ih_88 (j + 1) x24 _ _ _ lj (nb_s e_x24 hj) (z_m hm_88 lj) hI (lv_sub hl [0, 2, 3, 4, 5, 6] rfl)
                      refine lv_icmp_ge (tgt := 123) hx hb d_Mo_makeSeal_98 (by decide) (fun c_98 => ?_) (fun c_98 => ?_)
                      · refine lv_iload hx hb d_Mo_makeSeal_123 (lv_at hl 0 rfl) ?_
                        refine lv_iload hx hb d_Mo_makeSeal_125 (lv_at hl 1 rfl) ?_
                        refine lv_icmp_ge (tgt := 156) hx hb d_Mo_makeSeal_127 (by decide) (fun c_127 => ?_) (fun c_127 => ?_)
                        · refine lv_iconst (v := 0) hx hb d_Mo_makeSeal_156 (by decide) ?_
                          exact J_157 (0 : Int32) _ _ _ (show uN 0 < 256 by decide) hI (lv_sub hl [0, 1, 2, 3, 4, 5] rfl)
                        · refine lv_lload_n hx hb d_Mo_makeSeal_130 rfl (lv_at hl 4 rfl) ?_
                          refine lv_iload hx hb d_Mo_makeSeal_131 (lv_at hl 0 rfl) ?_
                          refine lv_iconst (v := 4) hx hb d_Mo_makeSeal_133 (by decide) ?_
                          refine lv_isub hx hb d_Mo_makeSeal_134 ?_
                          refine lv_aload_n hx hb d_Mo_makeSeal_135 rfl (lv_at hl 2 rfl) ?_
                          refine gw_get M hK hI hM.O i_Mo rfl 7 (by decide) f_Mo_29 rfl (Pv := fun v => v = .ref (q 7)) (fun x hx => ⟨_, _, hx, rfl, rfl⟩) d_Mo_makeSeal_136 (fun v hv => ?_)
                          subst hv
                          refine lv_iload_n hx hb d_Mo_makeSeal_139 rfl (lv_at hl 3 rfl) ?_
                          refine gw_zaldx M hK hI hM.k7 (nb_in ha1 hs1) d_Mo_makeSeal_140 ?_
                          rw [show (a1).toNatClampNeg = s1 from (nb_cl ha1)]
                          refine lv_if_eq (tgt := 148) hx hb d_Mo_makeSeal_141 (by decide) (fun c_141 => ?_) (fun c_141 => ?_)
                          · refine lv_iconst (v := 4) hx hb d_Mo_makeSeal_148 (by decide) ?_
                            refine lv_iadd hx hb d_Mo_makeSeal_149 ?_
                            refine gw_Si (As := [.long n2, .int ((y6 - (4 : Int32)) + (4 : Int32))]) (rest := []) M hK hI (c_Mo_byteOf l n2 ((y6 - (4 : Int32)) + (4 : Int32))) k_Mo_byteOf m_Mo_119 rfl hl.1 rfl (Nat.le_of_ble_eq_true rfl) ⟨rfl, rfl, ⟨Nat.le_of_ble_eq_true rfl, Nat.le_of_ble_eq_true rfl⟩, ⟨Nat.le_of_ble_eq_true rfl, Nat.le_of_ble_eq_true rfl⟩⟩ d_Mo_makeSeal_150 (fun x25 G9 H locs hw hI => ?_)
                            obtain ⟨h_x25, hw⟩ := hw
                            rw [hw] at hI
                            refine lv_goto (tgt := 157) hx hb d_Mo_makeSeal_153 (by decide) ?_
                            exact J_157 x25 _ _ _ h_x25 hI (lv_sub hl [0, 1, 2, 3, 4, 5] rfl)
                          · refine lv_iconst (v := 0) hx hb d_Mo_makeSeal_144 (by decide) ?_
                            refine lv_goto (tgt := 149) hx hb d_Mo_makeSeal_145 (by decide) ?_
                            refine lv_iadd hx hb d_Mo_makeSeal_149 ?_
                            refine gw_Si (As := [.long n2, .int ((y6 - (4 : Int32)) + (0 : Int32))]) (rest := []) M hK hI (c_Mo_byteOf l n2 ((y6 - (4 : Int32)) + (0 : Int32))) k_Mo_byteOf m_Mo_119 rfl hl.1 rfl (Nat.le_of_ble_eq_true rfl) ⟨rfl, rfl, ⟨Nat.le_of_ble_eq_true rfl, Nat.le_of_ble_eq_true rfl⟩, ⟨Nat.le_of_ble_eq_true rfl, Nat.le_of_ble_eq_true rfl⟩⟩ d_Mo_makeSeal_150 (fun x26 G9 H locs hw hI => ?_)
                            obtain ⟨h_x26, hw⟩ := hw
                            rw [hw] at hI
                            refine lv_goto (tgt := 157) hx hb d_Mo_makeSeal_153 (by decide) ?_
                            exact J_157 x26 _ _ _ h_x26 hI (lv_sub hl [0, 1, 2, 3, 4, 5] rfl)
                      · refine lv_aload_n hx hb d_Mo_makeSeal_101 rfl (lv_at hl 2 rfl) ?_
                        refine gw_get M hK hI hM.O i_Mo rfl 3 (by decide) f_Mo_17 rfl (Pv := fun v => v = .ref (q 3)) (fun x hx => ⟨_, _, hx, rfl, rfl⟩) d_Mo_makeSeal_102 (fun v hv => ?_)
                        subst hv
                        refine lv_iload_n hx hb d_Mo_makeSeal_105 rfl (lv_at hl 3 rfl) ?_
                        refine gw_ialdx M hK hI hM.k3 (nb_in ha1 hs1) d_Mo_makeSeal_106 ?_
                        rw [show (a1).toNatClampNeg = s1 from (nb_cl ha1)]
                        refine lv_bipush (v := 24) hx hb d_Mo_makeSeal_107 (by decide) ?_
                        refine lv_bipush (v := 8) hx hb d_Mo_makeSeal_109 (by decide) ?_
                        refine lv_iload hx hb d_Mo_makeSeal_111 (lv_at hl 0 rfl) ?_
                        refine lv_imul hx hb d_Mo_makeSeal_113 ?_
                        refine lv_isub hx hb d_Mo_makeSeal_114 ?_
                        refine lv_ishr hx hb d_Mo_makeSeal_115 ?_
                        refine lv_sipush (v := 255) hx hb d_Mo_makeSeal_116 (by decide) ?_
                        refine lv_iand hx hb d_Mo_makeSeal_119 ?_
                        refine lv_goto (tgt := 157) hx hb d_Mo_makeSeal_120 (by decide) ?_
                        exact J_157 (((fn s1) >>> (((24 : Int32) - ((8 : Int32) * y6)) &&& 31)) &&& (255 : Int32)) _ _ _ (by8_255 _) hI (lv_sub hl [0, 1, 2, 3, 4, 5] rfl)
                exact L_88 _ 0 0 _ _ _ (Nat.zero_le _) rfl (Nat.lt_succ_self _) hI (lv_sub hl [0, 1, 2, 3, 4, 5] rfl)
              refine lv_if_eq (tgt := 81) hx hb d_Mo_makeSeal_73 (by decide) (fun c_73 => ?_) (fun c_73 => ?_)
              · refine lv_bipush (v := 8) hx hb d_Mo_makeSeal_81 (by decide) ?_
                exact J_83 (8 : Int32) _ _ _  hI (lv_sub hl [0, 1, 2, 3, 4] rfl)
              · refine lv_bipush (v := 12) hx hb d_Mo_makeSeal_76 (by decide) ?_
                refine lv_goto (tgt := 83) hx hb d_Mo_makeSeal_78 (by decide) ?_
                exact J_83 (12 : Int32) _ _ _  hI (lv_sub hl [0, 1, 2, 3, 4] rfl)
            · have li : i < 16 := nb_lt (n := 16) hi c_44 (by decide) (z_31 bi)
              refine lv_aload_n hx hb d_Mo_makeSeal_47 rfl (lv_at hl 1 rfl) ?_
              refine gw_get M hK hI hM.O i_Mo rfl 27 (by decide) f_Mo_81 rfl (Pv := fun v => v = .ref (q 27)) (fun x hx => ⟨_, _, hx, rfl, rfl⟩) d_Mo_makeSeal_48 (fun v hv => ?_)
              subst hv
              refine lv_iload hx hb d_Mo_makeSeal_51 (lv_at hl 0 rfl) ?_
              refine lv_aload_n hx hb d_Mo_makeSeal_53 rfl (lv_at hl 1 rfl) ?_
              refine gw_get M hK hI hM.O i_Mo rfl 24 (by decide) f_Mo_72 rfl (Pv := fun v => v = .ref (q 24)) (fun x hx => ⟨_, _, hx, rfl, rfl⟩) d_Mo_makeSeal_54 (fun v hv => ?_)
              subst hv
              refine lv_iload hx hb d_Mo_makeSeal_57 (lv_at hl 0 rfl) ?_
              refine gw_iald M hK hI hM.k24 (nb_in hi li) d_Mo_makeSeal_59 (fun x27 h_x27 => ?_)
              refine gw_iast M hK hI hM.k27 (nb_in hi li) trivial d_Mo_makeSeal_60 (fun H locs hI => ?_)
              obtain ⟨x28, e_x28⟩ : ∃ ww9 : Int32, ww9 = y5 + 1 := ⟨_, rfl⟩
              refine lv_iinc (v := x28) (lv' := [(5, .int x28), (0, .ref o), (1, .int a1), (2, .long n2), (4, .int a4)]) hx hb d_Mo_makeSeal_61 hl (k := 0) rfl (by rw [e_x28]; rfl) (by decide) rfl (fun ls hl => ?_)
              refine lv_goto (tgt := 40) hx hb d_Mo_makeSeal_64 (by decide) ?_
              exact ih_40 (i + 1) x28 _ _ _ li (nb_s e_x28 hi) (z_m hm_40 li) hI (lv_sub hl [0, 1, 2, 3, 4] rfl)
        exact L_40 _ 0 0 _ _ _ (Nat.zero_le _) rfl (Nat.lt_succ_self _) hI (lv_sub hl [0, 1, 2, 3, 4] rfl)
      · have lk : k < 16 := nb_lt (n := 16) hk c_7 (by decide) (z_31 bk)
        refine lv_aload_n hx hb d_Mo_makeSeal_10 rfl (lv_at hl 1 rfl) ?_
        refine gw_get M hK hI hM.O i_Mo rfl 24 (by decide) f_Mo_72 rfl (Pv := fun v => v = .ref (q 24)) (fun x hx => ⟨_, _, hx, rfl, rfl⟩) d_Mo_makeSeal_11 (fun v hv => ?_)
        subst hv
        refine lv_iload hx hb d_Mo_makeSeal_14 (lv_at hl 0 rfl) ?_
        refine lv_iconst (v := 0) hx hb d_Mo_makeSeal_16 (by decide) ?_
        refine gw_iast M hK hI hM.k24 (nb_in hk lk) (show uN 0 < 256 by decide) d_Mo_makeSeal_17 (fun H locs hI => ?_)
        refine lv_aload_n hx hb d_Mo_makeSeal_18 rfl (lv_at hl 1 rfl) ?_
        refine gw_get M hK hI hM.O i_Mo rfl 26 (by decide) f_Mo_78 rfl (Pv := fun v => v = .ref (q 26)) (fun x hx => ⟨_, _, hx, rfl, rfl⟩) d_Mo_makeSeal_19 (fun v hv => ?_)
        subst hv
        refine lv_iload hx hb d_Mo_makeSeal_22 (lv_at hl 0 rfl) ?_
        refine lv_iconst (v := 0) hx hb d_Mo_makeSeal_24 (by decide) ?_
        refine gw_iast M hK hI hM.k26 (nb_in hk lk) (show uN 0 < 256 by decide) d_Mo_makeSeal_25 (fun H locs hI => ?_)
        obtain ⟨x29, e_x29⟩ : ∃ ww9 : Int32, ww9 = y5 + 1 := ⟨_, rfl⟩
        refine lv_iinc (v := x29) (lv' := [(5, .int x29), (0, .ref o), (1, .int a1), (2, .long n2), (4, .int a4)]) hx hb d_Mo_makeSeal_26 hl (k := 0) rfl (by rw [e_x29]; rfl) (by decide) rfl (fun ls hl => ?_)
        refine lv_goto (tgt := 3) hx hb d_Mo_makeSeal_29 (by decide) ?_
        exact ih_3 (k + 1) x29 _ _ _ lk (nb_s e_x29 hk) (z_m hm_3 lk) hI (lv_sub hl [0, 1, 2, 3, 4] rfl)
  exact L_3 _ 0 0 _ _ _ (Nat.zero_le _) rfl (Nat.lt_succ_self _) hI (lv_sub hl [0, 1, 2, 3, 4] rfl)

abbrev rm_Mo_turnBody : Room := { frames := 4, cells := 0, slots := 0, locals := 94 }
set_option maxHeartbeats 4000000 in
set_option maxRecDepth 100000 in
theorem c_Mo_turnBody (l : Launch) {D : gw_D} {Hs : Heap} {G : gw_G} (o : Nat) (q : Nat → Nat) (B : Nat) (t0 : Int32) (f0 l0 g0 : Nat) (fu fn fx fi : Nat → Int32) (fl : Nat → Int64) (hM : mdl D G o q B t0 f0 l0 g0 fu fn fx fi fl) (a1 : Int32) (s1 : Nat) (ha1 : a1 = nI s1) (hs1 : s1 < 16) (a4 : Int32) (b1 : Nat) (ha4 : a4 = nI b1) (hb1 : b1 ≤ 204) : Met l y_Mo_turnBody (Cond.code y_Mo_turnBody b_Mo_turnBody 4 none :: tb) rm_Mo_turnBody (gw_Pc D Hs G [.ref o, .int a1, .int a4]) (gw_Qv D Hs (fun G1 => G1 = G)) 0 0 (gw_A Hs) := by
  refine gw_met (by decide) (Nat.le_of_ble_eq_true rfl) ?_
  intro p e s m args below meth c M hK hr hlo hin hI ls hl
  have hx := M.1
  have hb := M.2.1
  have hl : lv_has ls 4 [(0, .ref o), (1, .int a1), (2, .int a4)] := hl
  have hf : gw_fr (mown o q) G G := gw_fr.rf
  refine lv_iconst (v := 0) hx hb d_Mo_turnBody_0 (by decide) ?_
  refine lv_istore_n (lv' := [(3, .int 0), (0, .ref o), (1, .int a1), (2, .int a4)]) hx hb d_Mo_turnBody_1 rfl hl (by decide) rfl (fun ls hl => ?_)
  have L_2 : ∀ (n9 : Nat) (k : Nat) (y3 : Int32) (H : Heap) (locs : List Loc) (ls : Array Slot), k ≤ b1 → y3 = nI k → b1 - k < n9 → gw_I D Hs G s.heap H locs → lv_has ls 4 [(3, .int y3), (0, .ref o), (1, .int a1), (2, .int a4)] → W p l e rm_Mo_turnBody s m args below meth c H locs 0 0 (MQ below (gw_Qv D Hs (fun G1 => G1 = G)) args s 0 0 (gw_A Hs)) (F0 m 2 ls []) := by
    intro n9
    induction n9 with
    | zero =>
      intro k y3 H locs ls bk hk hm hI hl
      exact absurd hm (Nat.not_lt_zero _)
    | succ n9 ih_2 =>
      intro k y3 H locs ls bk hk hm_2 hI hl
      refine lv_iload_n hx hb d_Mo_turnBody_2 rfl (lv_at hl 0 rfl) ?_
      refine lv_iload_n hx hb d_Mo_turnBody_3 rfl (lv_at hl 3 rfl) ?_
      refine lv_icmp_ge (tgt := 59) hx hb d_Mo_turnBody_4 (by decide) (fun c_4 => ?_) (fun c_4 => ?_)
      · exact gw_vret M hr hlo hI d_Mo_turnBody_59 rfl
      · have lk : k < b1 := nb_lt (n := b1) hk (by rw [← ha4]; exact c_4) (by omega) (by omega)
        refine lv_iload_n hx hb d_Mo_turnBody_7 rfl (lv_at hl 0 rfl) ?_
        refine lv_bipush (v := 16) hx hb d_Mo_turnBody_8 (by decide) ?_
        refine lv_irem hx hb d_Mo_turnBody_10 (by decide) ?_
        refine lv_if_ne (tgt := 25) hx hb d_Mo_turnBody_11 (by decide) (fun c_11 => ?_) (fun c_11 => ?_)
        · refine lv_aload_n hx hb d_Mo_turnBody_25 rfl (lv_at hl 1 rfl) ?_
          refine gw_get M hK hI hM.O i_Mo rfl 18 (by decide) f_Mo_60 rfl (Pv := fun v => v = .ref (q 18)) (fun x hx => ⟨_, _, hx, rfl, rfl⟩) d_Mo_turnBody_26 (fun v hv => ?_)
          subst hv
          refine lv_bipush (v := 16) hx hb d_Mo_turnBody_29 (by decide) ?_
          refine lv_iload_n hx hb d_Mo_turnBody_31 rfl (lv_at hl 0 rfl) ?_
          refine lv_iadd hx hb d_Mo_turnBody_32 ?_
          refine lv_aload_n hx hb d_Mo_turnBody_33 rfl (lv_at hl 1 rfl) ?_
          refine gw_get M hK hI hM.O i_Mo rfl 18 (by decide) f_Mo_60 rfl (Pv := fun v => v = .ref (q 18)) (fun x hx => ⟨_, _, hx, rfl, rfl⟩) d_Mo_turnBody_34 (fun v hv => ?_)
          subst hv
          refine lv_bipush (v := 16) hx hb d_Mo_turnBody_37 (by decide) ?_
          refine lv_iload_n hx hb d_Mo_turnBody_39 rfl (lv_at hl 0 rfl) ?_
          refine lv_iadd hx hb d_Mo_turnBody_40 ?_
          refine gw_iald M hK hI hM.k18 (nb_in (nb_aa (k := 16) rfl hk) (by omega) (by decide)) d_Mo_turnBody_41 (fun x1 h_x1 => ?_)
          refine lv_aload_n hx hb d_Mo_turnBody_42 rfl (lv_at hl 1 rfl) ?_
          refine gw_get M hK hI hM.O i_Mo rfl 24 (by decide) f_Mo_72 rfl (Pv := fun v => v = .ref (q 24)) (fun x hx => ⟨_, _, hx, rfl, rfl⟩) d_Mo_turnBody_43 (fun v hv => ?_)
          subst hv
          refine lv_iload_n hx hb d_Mo_turnBody_46 rfl (lv_at hl 0 rfl) ?_
          refine lv_bipush (v := 16) hx hb d_Mo_turnBody_47 (by decide) ?_
          refine lv_irem hx hb d_Mo_turnBody_49 (by decide) ?_
          refine gw_iald M hK hI hM.k24 (nb_in (nb_rem hk 16) (by omega) (by decide)) d_Mo_turnBody_50 (fun x2 h_x2 => ?_)
          refine lv_ixor hx hb d_Mo_turnBody_51 ?_
          refine lv_topi (fun x3 e_x3 => ?_)
          refine gw_iast M hK hI hM.k18 (nb_in (nb_aa (k := 16) rfl hk) (by omega) (by decide)) (by rw [e_x3]; exact (by8_xor h_x1 h_x2)) d_Mo_turnBody_52 (fun H locs hI => ?_)
          obtain ⟨x4, e_x4⟩ : ∃ ww9 : Int32, ww9 = y3 + 1 := ⟨_, rfl⟩
          refine lv_iinc (v := x4) (lv' := [(3, .int x4), (0, .ref o), (1, .int a1), (2, .int a4)]) hx hb d_Mo_turnBody_53 hl (k := 0) rfl (by rw [e_x4]; rfl) (by decide) rfl (fun ls hl => ?_)
          refine lv_goto (tgt := 2) hx hb d_Mo_turnBody_56 (by decide) ?_
          exact ih_2 (k + 1) x4 _ _ _ lk (nb_s e_x4 hk) (z_m hm_2 lk) hI (lv_sub hl [0, 1, 2, 3] rfl)
        · refine lv_aload_n hx hb d_Mo_turnBody_14 rfl (lv_at hl 1 rfl) ?_
          refine lv_iload_n hx hb d_Mo_turnBody_15 rfl (lv_at hl 2 rfl) ?_
          refine lv_iload_n hx hb d_Mo_turnBody_16 rfl (lv_at hl 0 rfl) ?_
          refine lv_bipush (v := 16) hx hb d_Mo_turnBody_17 (by decide) ?_
          refine lv_idiv hx hb d_Mo_turnBody_19 (by decide) ?_
          refine lv_iconst (v := 2) hx hb d_Mo_turnBody_20 (by decide) ?_
          refine lv_iadd hx hb d_Mo_turnBody_21 ?_
          refine gw_Vv (As := [.int a1, .int ((y3 / (16 : Int32)) + (2 : Int32))]) (rest := []) M hK hI (c_Mo_counted l o q B t0 f0 l0 g0 fu fn fx fi fl hM a1 s1 ha1 hs1 ((y3 / (16 : Int32)) + (2 : Int32))) k_Mo_counted m_Mo_128 hM.O (ci := 6) rfl (fun x hx => ⟨_, hx⟩) rfl hl.1 rfl (Nat.le_of_ble_eq_true rfl) ⟨rfl, rfl, ⟨Nat.le_of_ble_eq_true rfl, Nat.le_of_ble_eq_true rfl⟩, ⟨Nat.le_of_ble_eq_true rfl, Nat.le_of_ble_eq_true rfl⟩⟩ d_Mo_turnBody_22 (fun G9 H locs hw hI => ?_)
          rw [hw] at hI
          refine lv_aload_n hx hb d_Mo_turnBody_25 rfl (lv_at hl 1 rfl) ?_
          refine gw_get M hK hI hM.O i_Mo rfl 18 (by decide) f_Mo_60 rfl (Pv := fun v => v = .ref (q 18)) (fun x hx => ⟨_, _, hx, rfl, rfl⟩) d_Mo_turnBody_26 (fun v hv => ?_)
          subst hv
          refine lv_bipush (v := 16) hx hb d_Mo_turnBody_29 (by decide) ?_
          refine lv_iload_n hx hb d_Mo_turnBody_31 rfl (lv_at hl 0 rfl) ?_
          refine lv_iadd hx hb d_Mo_turnBody_32 ?_
          refine lv_aload_n hx hb d_Mo_turnBody_33 rfl (lv_at hl 1 rfl) ?_
          refine gw_get M hK hI hM.O i_Mo rfl 18 (by decide) f_Mo_60 rfl (Pv := fun v => v = .ref (q 18)) (fun x hx => ⟨_, _, hx, rfl, rfl⟩) d_Mo_turnBody_34 (fun v hv => ?_)
          subst hv
          refine lv_bipush (v := 16) hx hb d_Mo_turnBody_37 (by decide) ?_
          refine lv_iload_n hx hb d_Mo_turnBody_39 rfl (lv_at hl 0 rfl) ?_
          refine lv_iadd hx hb d_Mo_turnBody_40 ?_
          refine gw_iald M hK hI hM.k18 (nb_in (nb_aa (k := 16) rfl hk) (by omega) (by decide)) d_Mo_turnBody_41 (fun x6 h_x6 => ?_)
          refine lv_aload_n hx hb d_Mo_turnBody_42 rfl (lv_at hl 1 rfl) ?_
          refine gw_get M hK hI hM.O i_Mo rfl 24 (by decide) f_Mo_72 rfl (Pv := fun v => v = .ref (q 24)) (fun x hx => ⟨_, _, hx, rfl, rfl⟩) d_Mo_turnBody_43 (fun v hv => ?_)
          subst hv
          refine lv_iload_n hx hb d_Mo_turnBody_46 rfl (lv_at hl 0 rfl) ?_
          refine lv_bipush (v := 16) hx hb d_Mo_turnBody_47 (by decide) ?_
          refine lv_irem hx hb d_Mo_turnBody_49 (by decide) ?_
          refine gw_iald M hK hI hM.k24 (nb_in (nb_rem hk 16) (by omega) (by decide)) d_Mo_turnBody_50 (fun x7 h_x7 => ?_)
          refine lv_ixor hx hb d_Mo_turnBody_51 ?_
          refine lv_topi (fun x8 e_x8 => ?_)
          refine gw_iast M hK hI hM.k18 (nb_in (nb_aa (k := 16) rfl hk) (by omega) (by decide)) (by rw [e_x8]; exact (by8_xor h_x6 h_x7)) d_Mo_turnBody_52 (fun H locs hI => ?_)
          obtain ⟨x9, e_x9⟩ : ∃ ww9 : Int32, ww9 = y3 + 1 := ⟨_, rfl⟩
          refine lv_iinc (v := x9) (lv' := [(3, .int x9), (0, .ref o), (1, .int a1), (2, .int a4)]) hx hb d_Mo_turnBody_53 hl (k := 0) rfl (by rw [e_x9]; rfl) (by decide) rfl (fun ls hl => ?_)
          refine lv_goto (tgt := 2) hx hb d_Mo_turnBody_56 (by decide) ?_
          exact ih_2 (k + 1) x9 _ _ _ lk (nb_s e_x9 hk) (z_m hm_2 lk) hI (lv_sub hl [0, 1, 2, 3] rfl)
  exact L_2 _ 0 0 _ _ _ (Nat.zero_le _) rfl (Nat.lt_succ_self _) hI (lv_sub hl [0, 1, 2, 3] rfl)
