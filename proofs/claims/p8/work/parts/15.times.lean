/-! bytes: ints whose 32 bits are below 256 -/
def uN (x : Int32) : Nat := x.toBitVec.toNat
def by8 : Int32 → Prop := fun x => uN x < 256
theorem uN_lt (x : Int32) : uN x < 4294967296 := x.toBitVec.isLt
theorem uN_nI {n : Nat} (h : n < 2 ^ 32) : uN (nI n) = n := pk_tn h
theorem uN_toInt {x : Int32} (h : uN x < 2 ^ 31) : x.toInt = (uN x : Int) := by
  rw [← Int32.toInt_toBitVec, BitVec.toInt_eq_toNat_of_lt (by unfold uN at h; omega)]
  rfl
theorem uN_eq {x : Int32} : x = nI (uN x) := by
  apply Int32.toBitVec_inj.mp
  apply BitVec.eq_of_toNat_eq
  show uN x = uN (nI (uN x))
  rw [uN_nI (uN_lt x)]
theorem uN_in {x : Int32} {n : Nat} (h : uN x < n) (hn : n < 2 ^ 31 := by decide) : vp_in x n := by
  rw [vp_in_iff, uN_toInt (by omega)]
  omega
theorem uN_of {x : Int32} {n : Nat} (h : vp_in x n) (hn : n < 2 ^ 31 := by decide) : uN x < n := by
  obtain ⟨j, hj, rfl⟩ := vp_in_of h hn
  rw [uN_nI (by omega)]; exact hj
theorem uN_or (x y : Int32) : uN (x ||| y) = uN x ||| uN y := by
  unfold uN; rw [Int32.toBitVec_or, BitVec.toNat_or]
theorem uN_xor (x y : Int32) : uN (x ^^^ y) = uN x ^^^ uN y := by
  unfold uN; rw [Int32.toBitVec_xor, BitVec.toNat_xor]
theorem uN_and (x y : Int32) : uN (x &&& y) = uN x &&& uN y := by
  unfold uN; rw [Int32.toBitVec_and, BitVec.toNat_and]
theorem by8_xor {x y : Int32} (hx : by8 x) (hy : by8 y) : by8 (x ^^^ y) := by
  show uN _ < 2 ^ 8
  rw [uN_xor]; exact Nat.xor_lt_two_pow hx hy
theorem by8_in {x : Int32} (h : by8 x) : vp_in x 256 := uN_in h
theorem bit_and (x : Int32) : uN (x &&& 1) < 2 := by
  rw [uN_and, show uN 1 = 1 from rfl]; exact Nat.lt_of_le_of_lt Nat.and_le_right (by decide)
theorem bit_xor {x y : Int32} (hx : uN x < 2) (hy : uN y < 2) : uN (x ^^^ y) < 2 := by
  rw [uN_xor]; exact Nat.xor_lt_two_pow (n := 1) hx hy
theorem sm_31 : ∀ i, i < 32 → ((nI i &&& 31).toBitVec.smod 32).toNat = i := by decide +kernel
theorem uN_shl {x : Int32} {i : Nat} (h : i < 32) : uN (x <<< (nI i &&& 31)) = uN x * 2 ^ i % 2 ^ 32 := pk_shl x _ i (sm_31 i h)
theorem bit_add {v b : Int32} {i : Nat} (h : i < 8) (hv : uN v < 2 ^ i) (hb : uN b < 2) : uN (v ||| (b <<< (nI i &&& 31))) < 2 ^ (i + 1) := by
  rw [uN_or, uN_shl (by omega)]
  refine Nat.or_lt_two_pow (Nat.lt_of_lt_of_le hv (Nat.pow_le_pow_right (by decide) (by omega))) ?_
  have h1 : uN b * 2 ^ i < 2 ^ (i + 1) := by
    rw [Nat.pow_succ, Nat.mul_comm (2 ^ i) 2]
    exact Nat.mul_lt_mul_of_pos_right hb (Nat.pow_pos (by decide))
  exact Nat.lt_of_le_of_lt (Nat.mod_le _ _) h1
theorem tm_283 : ∀ u, u < 512 → 256 ≤ u → u ^^^ 283 < 256 := by decide +kernel
theorem tm_1 {v : Int32} (h : by8 v) : uN (v <<< ((1 : Int32) &&& 31)) < 512 := by
  have h2 := uN_shl (x := v) (i := 1) (by decide)
  have h3 : uN (v <<< ((1 : Int32) &&& 31)) = uN v * 2 ^ 1 % 2 ^ 32 := h2
  have h4 : uN v < 256 := h
  omega
theorem tm_2 {v : Int32} (h : uN v < 512) (hc : ¬ v ≤ 255) : by8 (v ^^^ 283) := by
  show uN _ < 256
  rw [uN_xor, show uN 283 = 283 from rfl]
  refine tm_283 _ h ?_
  have h1 := uN_toInt (x := v) (by omega)
  rcases Nat.lt_or_ge (uN v) 256 with q | q
  · refine absurd ?_ hc
    rw [Int32.le_iff_toInt_le, h1]
    show (uN v : Int) ≤ 255
    omega
  · exact q
theorem tm_3 {v : Int32} (h : uN v < 512) (hc : v ≤ 255) : by8 v := by
  show uN _ < 256
  have h1 := uN_toInt (x := v) (by omega)
  rw [Int32.le_iff_toInt_le, h1] at hc
  have h2 : (uN v : Int) ≤ 255 := hc
  omega

theorem nI_down (k : Nat) : nI k - 1 = nI k + (-1) := by
  apply Int32.toBitVec_inj.mp
  rw [Int32.toBitVec_sub, Int32.toBitVec_add]
  exact BitVec.sub_eq_add_neg _ _

abbrev rm_Mo_times : Room := { frames := 0, cells := 0, slots := 0, locals := 0 }
set_option maxHeartbeats 4000000 in
set_option maxRecDepth 100000 in
theorem c_Mo_times (l : Launch) {D : gw_D} {Hs : Heap} {G : gw_G} (x0 y0 : Int32) : Met l y_Mo_times (Cond.code y_Mo_times b_Mo_times 4 (some .int) :: tb) rm_Mo_times (gw_Pc D Hs G [.int x0, .int y0]) (gw_Qi D Hs (fun r G1 => (by8 x0 → by8 r) ∧ G1 = G)) 0 0 (gw_A Hs) := by
  refine gw_met (by decide) (Nat.le_of_ble_eq_true rfl) ?_
  intro p e s m args below meth c M hK hr hlo hin hI ls hl
  have hx := M.1
  have hb := M.2.1
  have hl : lv_has ls 4 [(0, .int x0), (1, .int y0)] := hl
  refine lv_iconst (v := 0) hx hb d_Mo_times_0 (by decide) ?_
  refine lv_istore_n (lv' := [(2, .int 0), (0, .int x0), (1, .int y0)]) hx hb d_Mo_times_1 rfl hl (by decide) rfl (fun ls hl => ?_)
  refine lv_bipush (v := 7) hx hb d_Mo_times_2 (by decide) ?_
  refine lv_istore_n (lv' := [(3, .int 7), (2, .int 0), (0, .int x0), (1, .int y0)]) hx hb d_Mo_times_4 rfl hl (by decide) rfl (fun ls hl => ?_)
  have L_5 : ∀ (n9 : Nat) (k : Nat) (y2 : Int32) (y3 : Int32) (H : Heap) (locs : List Loc) (ls : Array Slot), k ≤ 8 → y3 = nI k - 1 → (by8 x0 → by8 y2) → k < n9 → gw_I D Hs G s.heap H locs → lv_has ls 4 [(3, .int y3), (2, .int y2), (0, .int x0), (1, .int y0)] → W p l e rm_Mo_times s m args below meth c H locs 0 0 (MQ below (gw_Qi D Hs (fun r G1 => (by8 x0 → by8 r) ∧ G1 = G)) args s 0 0 (gw_A Hs)) (F0 m 5 ls []) := by
    intro n9
    induction n9 with
    | zero =>
      intro k y2 y3 H locs ls h8 hk hv hm hI hl
      exact absurd hm (Nat.not_lt_zero _)
    | succ n9 ih_5 =>
      intro k y2 y3 H locs ls h8 hk hv hm hI hl
      refine lv_iload_n hx hb d_Mo_times_5 rfl (lv_at hl 0 rfl) ?_
      refine lv_if_lt (tgt := 53) hx hb d_Mo_times_6 (by decide) (fun c_6 => ?_) (fun c_6 => ?_)
      · refine lv_iload_n hx hb d_Mo_times_53 rfl (lv_at hl 1 rfl) ?_
        exact gw_iret M hr hlo hI d_Mo_times_54 (⟨hv, rfl⟩)
      · have hk0 : 0 < k := by
          rcases Nat.eq_zero_or_pos k with q | q
          · subst q; exact absurd (by rw [hk]; decide) c_6
          · exact q
        refine lv_iload_n hx hb d_Mo_times_9 rfl (lv_at hl 1 rfl) ?_
        refine lv_iconst (v := 1) hx hb d_Mo_times_10 (by decide) ?_
        refine lv_ishl hx hb d_Mo_times_11 ?_
        refine lv_topi (fun x1 e_x1 => ?_)
        refine lv_istore_n (lv' := [(2, .int x1), (3, .int y3), (0, .int x0), (1, .int y0)]) hx hb d_Mo_times_12 rfl hl (by decide) rfl (fun ls hl => ?_)
        have J_29 : ∀ (j29 : Int32) (H : Heap) (locs : List Loc) (ls : Array Slot), (by8 x0 → by8 j29) → gw_I D Hs G s.heap H locs → lv_has ls 4 [(2, .int x1), (3, .int y3), (0, .int x0), (1, .int y0)] → W p l e rm_Mo_times s m args below meth c H locs 0 0 (MQ below (gw_Qi D Hs (fun r G1 => (by8 x0 → by8 r) ∧ G1 = G)) args s 0 0 (gw_A Hs)) (F0 m 29 ls [.int j29]) := by
          intro j29 H locs ls hj hI hl
          refine lv_istore_n (lv' := [(2, .int j29), (3, .int y3), (0, .int x0), (1, .int y0)]) hx hb d_Mo_times_29 rfl hl (by decide) rfl (fun ls hl => ?_)
          have J_46 : ∀ (j46 : Int32) (H : Heap) (locs : List Loc) (ls : Array Slot), (by8 x0 → by8 j46) → gw_I D Hs G s.heap H locs → lv_has ls 4 [(2, .int j29), (3, .int y3), (0, .int x0), (1, .int y0)] → W p l e rm_Mo_times s m args below meth c H locs 0 0 (MQ below (gw_Qi D Hs (fun r G1 => (by8 x0 → by8 r) ∧ G1 = G)) args s 0 0 (gw_A Hs)) (F0 m 46 ls [.int j46]) := by
            intro j46 H locs ls hj6 hI hl
            refine lv_istore_n (lv' := [(2, .int j46), (3, .int y3), (0, .int x0), (1, .int y0)]) hx hb d_Mo_times_46 rfl hl (by decide) rfl (fun ls hl => ?_)
            obtain ⟨x2, e_x2⟩ : ∃ ww9 : Int32, ww9 = y3 + (-1) := ⟨_, rfl⟩
            refine lv_iinc (v := x2) (lv' := [(3, .int x2), (2, .int j46), (0, .int x0), (1, .int y0)]) hx hb d_Mo_times_47 hl (k := 1) rfl (by rw [e_x2]; rfl) (by decide) rfl (fun ls hl => ?_)
            refine lv_goto (tgt := 5) hx hb d_Mo_times_50 (by decide) ?_
            exact ih_5 (k - 1) j46 x2 _ _ _ (by omega) (by rw [e_x2, hk, show k = k - 1 + 1 from by omega, nI_pred]; exact (nI_down _).symm) (fun h => hj6 h) (by omega) hI (lv_sub hl [0, 1, 2, 3] rfl)
          refine lv_iload_n hx hb d_Mo_times_30 rfl (lv_at hl 3 rfl) ?_
          refine lv_iload_n hx hb d_Mo_times_31 rfl (lv_at hl 1 rfl) ?_
          refine lv_ishr hx hb d_Mo_times_32 ?_
          refine lv_iconst (v := 1) hx hb d_Mo_times_33 (by decide) ?_
          refine lv_iand hx hb d_Mo_times_34 ?_
          refine lv_iconst (v := 1) hx hb d_Mo_times_35 (by decide) ?_
          refine lv_icmp_ne (tgt := 45) hx hb d_Mo_times_36 (by decide) (fun c_36 => ?_) (fun c_36 => ?_)
          · refine lv_iload_n hx hb d_Mo_times_45 rfl (lv_at hl 0 rfl) ?_
            exact J_46 j29 _ _ _ hj hI (lv_sub hl [0, 1, 2, 3] rfl)
          · refine lv_iload_n hx hb d_Mo_times_39 rfl (lv_at hl 0 rfl) ?_
            refine lv_iload_n hx hb d_Mo_times_40 rfl (lv_at hl 2 rfl) ?_
            refine lv_ixor hx hb d_Mo_times_41 ?_
            refine lv_goto (tgt := 46) hx hb d_Mo_times_42 (by decide) ?_
            exact J_46 (j29 ^^^ x0) _ _ _ (fun h => by8_xor (hj h) h) hI (lv_sub hl [0, 1, 2, 3] rfl)
        refine lv_iload_n hx hb d_Mo_times_13 rfl (lv_at hl 0 rfl) ?_
        refine lv_sipush (v := 255) hx hb d_Mo_times_14 (by decide) ?_
        refine lv_icmp_le (tgt := 28) hx hb d_Mo_times_17 (by decide) (fun c_17 => ?_) (fun c_17 => ?_)
        · have hv2 : by8 x0 → by8 x1 := fun h => by have h9 := tm_1 (hv h); rw [← e_x1] at h9; exact tm_3 h9 c_17
          refine lv_iload_n hx hb d_Mo_times_28 rfl (lv_at hl 0 rfl) ?_
          exact J_29 x1 _ _ _ hv2 hI (lv_sub hl [0, 1, 2, 3] rfl)
        · have hv2 : by8 x0 → by8 (x1 ^^^ 283) := fun h => by have h9 := tm_1 (hv h); rw [← e_x1] at h9; exact tm_2 h9 c_17
          refine lv_iload_n hx hb d_Mo_times_20 rfl (lv_at hl 0 rfl) ?_
          refine lv_sipush (v := 283) hx hb d_Mo_times_21 (by decide) ?_
          refine lv_ixor hx hb d_Mo_times_24 ?_
          refine lv_goto (tgt := 29) hx hb d_Mo_times_25 (by decide) ?_
          exact J_29 (x1 ^^^ (283 : Int32)) _ _ _ hv2 hI (lv_sub hl [0, 1, 2, 3] rfl)
  exact L_5 _ 8 0 7 _ _ _ (by decide) rfl (fun _ => show uN 0 < 256 by decide) (Nat.lt_succ_self _) hI (lv_sub hl [0, 1, 2, 3] rfl)
