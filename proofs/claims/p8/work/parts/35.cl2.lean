/-- a window that add takes -/
def okW (x : Int32) : Prop := ¬ x < 32 ∧ ¬ 1024 < x ∧ x - x / 32 * 32 = 0
theorem okW.v {x : Int32} (h : okW x) : okV x := by
  obtain ⟨h1, h2, -⟩ := h
  rw [Int32.lt_iff_toInt_lt] at h1
  rw [Int32.lt_iff_toInt_lt] at h2
  have e1 : (32 : Int32).toInt = 32 := rfl
  have e2 : (1024 : Int32).toInt = 1024 := rfl
  constructor <;> omega
def gre (x : Int32) : Int64 := if x = 0 then 4294967295 else 9223372036854775807
def okB (x : Int32) : Prop := ¬ x < 0 ∧ ¬ 255 < x
def okP (x : Int32) : Prop := ¬ x < 0 ∧ ¬ 8 ≤ x
theorem okP.n {x : Int32} (h : okP x) : ∃ j : Nat, j < 8 ∧ x = nI j := by
  obtain ⟨h1, h2⟩ := h
  obtain ⟨j, hj, rfl⟩ := nI_of h1
  exact ⟨j, nb_lt (n := 8) rfl h2 (by decide) hj, rfl⟩

abbrev rm_Gp_isWindow : Room := { frames := 0, cells := 0, slots := 0, locals := 0 }
set_option maxHeartbeats 4000000 in
set_option maxRecDepth 100000 in
theorem c_Gp_isWindow (l : Launch) {D : gw_D} {Hs : Heap} {G : gw_G} (n0 : Int32) : Met l y_Gp_isWindow (Cond.code y_Gp_isWindow b_Gp_isWindow 1 (some .boolean) :: tb) rm_Gp_isWindow (gw_Pc D Hs G [.int n0]) (vp_Si (fun r => (okW n0 → r = 1) ∧ (¬ okW n0 → r = 0))) 0 0 (fun _ => False) := by
  refine gw_met (by decide) (Nat.le_of_ble_eq_true rfl) ?_
  intro p e s m args below meth c M hK hr hlo hin hI ls hl
  have hx := M.1
  have hb := M.2.1
  have hl : lv_has ls 1 [(0, .int n0)] := hl
  refine lv_iload_n hx hb d_Gp_isWindow_0 rfl (lv_at hl 0 rfl) ?_
  refine lv_bipush (v := 32) hx hb d_Gp_isWindow_1 (by decide) ?_
  refine lv_icmp_lt (tgt := 24) hx hb d_Gp_isWindow_3 (by decide) (fun c_3 => ?_) (fun c_3 => ?_)
  · have hw1 := c_3
    refine lv_iconst (v := 0) hx hb d_Gp_isWindow_24 (by decide) ?_
    exact gp_ret M hr rfl hlo d_Gp_isWindow_25 (⟨fun h9 => absurd h9 (fun h => h.1 c_3), fun _ => rfl⟩)
  · refine lv_iload_n hx hb d_Gp_isWindow_6 rfl (lv_at hl 0 rfl) ?_
    refine lv_sipush (v := 1024) hx hb d_Gp_isWindow_7 (by decide) ?_
    refine lv_icmp_gt (tgt := 24) hx hb d_Gp_isWindow_10 (by decide) (fun c_10 => ?_) (fun c_10 => ?_)
    · have hw1 := c_10
      refine lv_iconst (v := 0) hx hb d_Gp_isWindow_24 (by decide) ?_
      exact gp_ret M hr rfl hlo d_Gp_isWindow_25 (⟨fun h9 => absurd h9 (fun h => h.2.1 c_10), fun _ => rfl⟩)
    · refine lv_iload_n hx hb d_Gp_isWindow_13 rfl (lv_at hl 0 rfl) ?_
      refine lv_bipush (v := 32) hx hb d_Gp_isWindow_14 (by decide) ?_
      refine lv_irem hx hb d_Gp_isWindow_16 (by decide) ?_
      refine lv_if_ne (tgt := 24) hx hb d_Gp_isWindow_17 (by decide) (fun c_17 => ?_) (fun c_17 => ?_)
      · have hw1 := c_17
        refine lv_iconst (v := 0) hx hb d_Gp_isWindow_24 (by decide) ?_
        exact gp_ret M hr rfl hlo d_Gp_isWindow_25 (⟨fun h9 => absurd h9 (fun h => c_17 h.2.2), fun _ => rfl⟩)
      · refine lv_iconst (v := 1) hx hb d_Gp_isWindow_20 (by decide) ?_
        refine lv_goto (tgt := 25) hx hb d_Gp_isWindow_21 (by decide) ?_
        exact gp_ret M hr rfl hlo d_Gp_isWindow_25 (⟨fun _ => rfl, fun h9 => absurd ⟨c_3, c_10, c_17⟩ h9⟩)

abbrev rm_Gp_isByte : Room := { frames := 0, cells := 0, slots := 0, locals := 0 }
set_option maxHeartbeats 4000000 in
set_option maxRecDepth 100000 in
theorem c_Gp_isByte (l : Launch) {D : gw_D} {Hs : Heap} {G : gw_G} (n0 : Int32) : Met l y_Gp_isByte (Cond.code y_Gp_isByte b_Gp_isByte 1 (some .boolean) :: tb) rm_Gp_isByte (gw_Pc D Hs G [.int n0]) (vp_Si (fun r => (okB n0 → r = 1) ∧ (¬ okB n0 → r = 0))) 0 0 (fun _ => False) := by
  refine gw_met (by decide) (Nat.le_of_ble_eq_true rfl) ?_
  intro p e s m args below meth c M hK hr hlo hin hI ls hl
  have hx := M.1
  have hb := M.2.1
  have hl : lv_has ls 1 [(0, .int n0)] := hl
  refine lv_iload_n hx hb d_Gp_isByte_0 rfl (lv_at hl 0 rfl) ?_
  refine lv_if_lt (tgt := 15) hx hb d_Gp_isByte_1 (by decide) (fun c_1 => ?_) (fun c_1 => ?_)
  · have hw1 := c_1
    refine lv_iconst (v := 0) hx hb d_Gp_isByte_15 (by decide) ?_
    exact gp_ret M hr rfl hlo d_Gp_isByte_16 (⟨fun h9 => absurd h9 (fun h => h.1 c_1), fun _ => rfl⟩)
  · refine lv_iload_n hx hb d_Gp_isByte_4 rfl (lv_at hl 0 rfl) ?_
    refine lv_sipush (v := 255) hx hb d_Gp_isByte_5 (by decide) ?_
    refine lv_icmp_gt (tgt := 15) hx hb d_Gp_isByte_8 (by decide) (fun c_8 => ?_) (fun c_8 => ?_)
    · have hw1 := c_8
      refine lv_iconst (v := 0) hx hb d_Gp_isByte_15 (by decide) ?_
      exact gp_ret M hr rfl hlo d_Gp_isByte_16 (⟨fun h9 => absurd h9 (fun h => h.2 c_8), fun _ => rfl⟩)
    · refine lv_iconst (v := 1) hx hb d_Gp_isByte_11 (by decide) ?_
      refine lv_goto (tgt := 16) hx hb d_Gp_isByte_12 (by decide) ?_
      exact gp_ret M hr rfl hlo d_Gp_isByte_16 (⟨fun _ => rfl, fun h9 => absurd ⟨c_1, c_8⟩ h9⟩)

abbrev rm_Gp_isPlace : Room := { frames := 0, cells := 0, slots := 0, locals := 0 }
set_option maxHeartbeats 4000000 in
set_option maxRecDepth 100000 in
theorem c_Gp_isPlace (l : Launch) {D : gw_D} {Hs : Heap} {G : gw_G} (n0 : Int32) : Met l y_Gp_isPlace (Cond.code y_Gp_isPlace b_Gp_isPlace 1 (some .boolean) :: tb) rm_Gp_isPlace (gw_Pc D Hs G [.int n0]) (vp_Si (fun r => (okP n0 → r = 1) ∧ (¬ okP n0 → r = 0))) 0 0 (fun _ => False) := by
  refine gw_met (by decide) (Nat.le_of_ble_eq_true rfl) ?_
  intro p e s m args below meth c M hK hr hlo hin hI ls hl
  have hx := M.1
  have hb := M.2.1
  have hl : lv_has ls 1 [(0, .int n0)] := hl
  refine lv_iload_n hx hb d_Gp_isPlace_0 rfl (lv_at hl 0 rfl) ?_
  refine lv_if_lt (tgt := 14) hx hb d_Gp_isPlace_1 (by decide) (fun c_1 => ?_) (fun c_1 => ?_)
  · have hw1 := c_1
    refine lv_iconst (v := 0) hx hb d_Gp_isPlace_14 (by decide) ?_
    exact gp_ret M hr rfl hlo d_Gp_isPlace_15 (⟨fun h9 => absurd h9 (fun h => h.1 c_1), fun _ => rfl⟩)
  · refine lv_iload_n hx hb d_Gp_isPlace_4 rfl (lv_at hl 0 rfl) ?_
    refine lv_bipush (v := 8) hx hb d_Gp_isPlace_5 (by decide) ?_
    refine lv_icmp_ge (tgt := 14) hx hb d_Gp_isPlace_7 (by decide) (fun c_7 => ?_) (fun c_7 => ?_)
    · have hw1 := c_7
      refine lv_iconst (v := 0) hx hb d_Gp_isPlace_14 (by decide) ?_
      exact gp_ret M hr rfl hlo d_Gp_isPlace_15 (⟨fun h9 => absurd h9 (fun h => h.2 c_7), fun _ => rfl⟩)
    · refine lv_iconst (v := 1) hx hb d_Gp_isPlace_10 (by decide) ?_
      refine lv_goto (tgt := 15) hx hb d_Gp_isPlace_11 (by decide) ?_
      exact gp_ret M hr rfl hlo d_Gp_isPlace_15 (⟨fun _ => rfl, fun h9 => absurd ⟨c_1, c_7⟩ h9⟩)

abbrev rm_As_greatestp : Room := { frames := 0, cells := 0, slots := 0, locals := 0 }
set_option maxHeartbeats 4000000 in
set_option maxRecDepth 100000 in
theorem c_As_greatestp (l : Launch) {D : gw_D} {Hs : Heap} {G : gw_G} (a ci wi : Nat) (tt xt : Int32) (la : Int64) (li : Int32) (hA : G a = some (kAp ci wi tt xt la li)) : Met l y_As_greatest (Cond.code y_As_greatest b_As_greatest 1 (some .long) :: tb) rm_As_greatestp (gw_Pc D Hs G [.ref a]) (vp_Sl (fun r => r = gre xt)) 0 0 (fun _ => False) := by
  refine gw_met (by decide) (Nat.le_of_ble_eq_true rfl) ?_
  intro p e s m args below meth c M hK hr hlo hin hI ls hl
  have hx := M.1
  have hb := M.2.1
  have hl : lv_has ls 1 [(0, .ref a)] := hl
  refine lv_aload_n hx hb d_As_greatest_0 rfl (lv_at hl 0 rfl) ?_
  refine gw_get M hK hI hA i_As rfl 4 (by decide) f_As_30 rfl (Pv := fun v => v = .int xt) (fun x hx => by obtain ⟨u3, u5, u6, u9, v1, v2, q9⟩ := hx; exact ⟨_, _, q9, rfl, rfl⟩) d_As_greatest_1 (fun v hv => ?_)
  subst hv
  refine lv_if_eq (tgt := 13) hx hb d_As_greatest_4 (by decide) (fun c_4 => ?_) (fun c_4 => ?_)
  · refine lv_ldc2 (v := 4294967295) hx hb M.2.2.2.1 (M.2.2.2.2 _ o_As_79) d_As_greatest_13 ?_
    exact gp_retl M hr hlo d_As_greatest_16 (by unfold gre; rw [if_pos c_4])
  · refine lv_ldc2 (v := 9223372036854775807) hx hb M.2.2.2.1 (M.2.2.2.2 _ o_As_77) d_As_greatest_7 ?_
    refine lv_goto (tgt := 16) hx hb d_As_greatest_10 (by decide) ?_
    exact gp_retl M hr hlo d_As_greatest_16 (by unfold gre; rw [if_neg c_4])

abbrev rm_Gp_placeOf : Room := { frames := 0, cells := 0, slots := 0, locals := 0 }
set_option maxHeartbeats 4000000 in
set_option maxRecDepth 100000 in
theorem c_Gp_placeOf (l : Launch) {D : gw_D} {Hs : Heap} {G : gw_G} (A : Nat → Nat → Nat) (pm : Nat → Nat) (cnt fd : Nat) (tt xt li : Nat → Int32) (la : Nat → Int64) (hC : cls D G A pm cnt fd tt xt li la) (n1 : Int32) (kp : Nat) (hkp : isPl (fun j => tt (pm j)) cnt n1 kp)  : Met l y_Gp_placeOf (Cond.code y_Gp_placeOf b_Gp_placeOf 3 (some .int) :: tb) rm_Gp_placeOf (gw_Pc D Hs G [.ref (A 0 0), .int n1]) (vp_Si (fun r => r = nI kp)) 0 0 (fun _ => False) := by
  refine gw_met (by decide) (Nat.le_of_ble_eq_true rfl) ?_
  intro p e s m args below meth c M hK hr hlo hin hI ls hl
  have hx := M.1
  have hb := M.2.1
  have hl : lv_has ls 3 [(0, .ref (A 0 0)), (1, .int n1)] := hl
  have hc16 := hC.c16
  have hkc := hkp.1
  have hk31 : kp < 2 ^ 31 := by omega
  have hc31 : cnt < 2 ^ 31 := by omega
  refine lv_iconst (v := 0) hx hb d_Gp_placeOf_0 (by decide) ?_
  refine lv_istore_n (lv' := [(2, .int 0), (0, .ref (A 0 0)), (1, .int n1)]) hx hb d_Gp_placeOf_1 rfl hl (by decide) rfl (fun ls hl => ?_)
  have L_2 : ∀ (n9 : Nat) (k : Nat) (y2 : Int32) (ls : Array Slot), k ≤ kp → y2 = nI k → kp - k < n9 → lv_has ls 3 [(2, .int y2), (0, .ref (A 0 0)), (1, .int n1)] → W p l e rm_Gp_placeOf s m args below meth c s.heap [] 0 0 (MQ below (vp_Si (fun r => r = nI kp)) args s 0 0 (fun _ => False)) (F0 m 2 ls []) := by
    intro n9
    induction n9 with
    | zero =>
      intro k y2 ls hle hk hm hl
      exact absurd hm (Nat.not_lt_zero _)
    | succ n9 ih_2 =>
      intro k y2 ls hle hk hm_2 hl
      refine lv_iload_n hx hb d_Gp_placeOf_2 rfl (lv_at hl 0 rfl) ?_
      refine lv_aload_n hx hb d_Gp_placeOf_3 rfl (lv_at hl 1 rfl) ?_
      refine gw_get M hK hI hC.O i_Gp rfl 1 (by decide) f_Gp_15 rfl (Pv := fun v => v = .int (nI cnt)) (fun x hx => ⟨_, _, hx, rfl, rfl⟩) d_Gp_placeOf_4 (fun v hv => ?_)
      subst hv
      refine lv_icmp_ge (tgt := 29) hx hb d_Gp_placeOf_7 (by decide) (fun c_7 => ?_) (fun c_7 => ?_)
      · have hke : k = kp := Nat.le_antisymm hle (Nat.le_trans hkp.1 (nb_ge hk c_7 hc31 (Nat.lt_of_le_of_lt hle hk31)))
        refine lv_iload_n hx hb d_Gp_placeOf_29 rfl (lv_at hl 0 rfl) ?_
        exact gp_ret M hr rfl hlo d_Gp_placeOf_30 (by rw [hk, hke])
      · have hlc : k < cnt := nb_lt hk c_7 hc31 (Nat.lt_of_le_of_lt hle hk31)
        have hl16 : k < 16 := Nat.lt_of_lt_of_le hlc hC.c16
        have hcl : y2.toNatClampNeg = k := by rw [hk]; exact nI_clamp (Nat.lt_of_le_of_lt hle hk31)
        refine lv_aload_n hx hb d_Gp_placeOf_10 rfl (lv_at hl 1 rfl) ?_
        refine gw_get M hK hI hC.O i_Gp rfl 0 (by decide) f_Gp_11 rfl (Pv := fun v => v = .ref (A 1 0)) (fun x hx => ⟨_, _, hx, rfl, rfl⟩) d_Gp_placeOf_11 (fun v hv => ?_)
        subst hv
        refine lv_iload_n hx hb d_Gp_placeOf_14 rfl (lv_at hl 0 rfl) ?_
        refine gw_aald M hK hI 4 rfl hC.arr (nb_in hk hl16) d_Gp_placeOf_15 (fun r1 h_r1 => ?_)
        rw [hcl] at h_r1
        subst h_r1
        refine gw_get M hK hI (hC.as (hC.pmb hl16)) i_As rfl 2 (by decide) f_Gp_202 rfl (Pv := fun v => v = .int (tt (pm k))) (fun x hx => by obtain ⟨u3, u5, u6, u9, v1, v2, q9⟩ := hx; exact ⟨_, _, q9, rfl, rfl⟩) d_Gp_placeOf_16 (fun v hv => ?_)
        subst hv
        refine lv_iload_n hx hb d_Gp_placeOf_19 rfl (lv_at hl 2 rfl) ?_
        refine lv_icmp_ge (tgt := 29) hx hb d_Gp_placeOf_20 (by decide) (fun c_20 => ?_) (fun c_20 => ?_)
        · have hke : k = kp := Nat.le_antisymm hle (Nat.le_of_not_lt (fun q9 => absurd c_20 (Int32.not_le.mpr (hkp.2.1 k q9))))
          refine lv_iload_n hx hb d_Gp_placeOf_29 rfl (lv_at hl 0 rfl) ?_
          exact gp_ret M hr rfl hlo d_Gp_placeOf_30 (by rw [hk, hke])
        · have hlt : k < kp := Nat.lt_of_le_of_ne hle (fun q9 => by subst q9; exact hkp.2.2 hlc (Int32.not_le.mp c_20))
          obtain ⟨x2, e_x2⟩ : ∃ ww9 : Int32, ww9 = y2 + 1 := ⟨_, rfl⟩
          refine lv_iinc (v := x2) (lv' := [(2, .int x2), (0, .ref (A 0 0)), (1, .int n1)]) hx hb d_Gp_placeOf_23 hl (k := 0) rfl (by rw [e_x2]; rfl) (by decide) rfl (fun ls hl => ?_)
          refine lv_goto (tgt := 2) hx hb d_Gp_placeOf_26 (by decide) ?_
          exact ih_2 (k + 1) x2 _ hlt (nb_s e_x2 hk) (z_m hm_2 hlt) (lv_sub hl [0, 1, 2] rfl)
  exact L_2 _ 0 0 _ (Nat.zero_le _) rfl (Nat.lt_succ_self _) (lv_sub hl [0, 1, 2] rfl)

abbrev rm_Gp_isAt : Room := { frames := 0, cells := 0, slots := 0, locals := 0 }
set_option maxHeartbeats 4000000 in
set_option maxRecDepth 100000 in
theorem c_Gp_isAt (l : Launch) {D : gw_D} {Hs : Heap} {G : gw_G} (A : Nat → Nat → Nat) (pm : Nat → Nat) (cnt fd : Nat) (tt xt li : Nat → Int32) (la : Nat → Int64) (hC : cls D G A pm cnt fd tt xt li la) (kp : Nat) (hk16 : kp ≤ 16) (n1 : Int32) : Met l y_Gp_isAt (Cond.code y_Gp_isAt b_Gp_isAt 3 (some .boolean) :: tb) rm_Gp_isAt (gw_Pc D Hs G [.ref (A 0 0), .int (nI kp), .int n1]) (vp_Si (fun r => (kp < cnt ∧ tt (pm kp) = n1 → r = 1) ∧ (¬ (kp < cnt ∧ tt (pm kp) = n1) → r = 0))) 0 0 (fun _ => False) := by
  refine gw_met (by decide) (Nat.le_of_ble_eq_true rfl) ?_
  intro p e s m args below meth c M hK hr hlo hin hI ls hl
  have hx := M.1
  have hb := M.2.1
  have hl : lv_has ls 3 [(0, .ref (A 0 0)), (1, .int (nI kp)), (2, .int n1)] := hl
  have hc16 := hC.c16
  have hk31 : kp < 2 ^ 31 := by omega
  have hc31 : cnt < 2 ^ 31 := by omega
  refine lv_iload_n hx hb d_Gp_isAt_0 rfl (lv_at hl 1 rfl) ?_
  refine lv_aload_n hx hb d_Gp_isAt_1 rfl (lv_at hl 0 rfl) ?_
  refine gw_get M hK hI hC.O i_Gp rfl 1 (by decide) f_Gp_15 rfl (Pv := fun v => v = .int (nI cnt)) (fun x hx => ⟨_, _, hx, rfl, rfl⟩) d_Gp_isAt_2 (fun v hv => ?_)
  subst hv
  refine lv_icmp_ge (tgt := 25) hx hb d_Gp_isAt_5 (by decide) (fun c_5 => ?_) (fun c_5 => ?_)
  · have hge : cnt ≤ kp := nb_ge rfl c_5 hc31 hk31
    refine lv_iconst (v := 0) hx hb d_Gp_isAt_25 (by decide) ?_
    exact gp_ret M hr rfl hlo d_Gp_isAt_26 (⟨fun h9 => absurd h9 (fun h => Nat.not_lt.mpr hge h.1), fun _ => rfl⟩)
  · have hlc : kp < cnt := nb_lt rfl c_5 hc31 hk31
    have hl16 : kp < 16 := Nat.lt_of_lt_of_le hlc hC.c16
    refine lv_aload_n hx hb d_Gp_isAt_8 rfl (lv_at hl 0 rfl) ?_
    refine gw_get M hK hI hC.O i_Gp rfl 0 (by decide) f_Gp_11 rfl (Pv := fun v => v = .ref (A 1 0)) (fun x hx => ⟨_, _, hx, rfl, rfl⟩) d_Gp_isAt_9 (fun v hv => ?_)
    subst hv
    refine lv_iload_n hx hb d_Gp_isAt_12 rfl (lv_at hl 1 rfl) ?_
    refine gw_aald M hK hI 4 rfl hC.arr (vp_in_nI hl16 (by decide)) d_Gp_isAt_13 (fun r1 h_r1 => ?_)
    rw [nI_clamp hk31] at h_r1
    subst h_r1
    refine gw_get M hK hI (hC.as (hC.pmb hl16)) i_As rfl 2 (by decide) f_Gp_202 rfl (Pv := fun v => v = .int (tt (pm kp))) (fun x hx => by obtain ⟨u3, u5, u6, u9, v1, v2, q9⟩ := hx; exact ⟨_, _, q9, rfl, rfl⟩) d_Gp_isAt_14 (fun v hv => ?_)
    subst hv
    refine lv_iload_n hx hb d_Gp_isAt_17 rfl (lv_at hl 2 rfl) ?_
    refine lv_icmp_ne (tgt := 25) hx hb d_Gp_isAt_18 (by decide) (fun c_18 => ?_) (fun c_18 => ?_)
    · have hge := c_18
      refine lv_iconst (v := 0) hx hb d_Gp_isAt_25 (by decide) ?_
      exact gp_ret M hr rfl hlo d_Gp_isAt_26 (⟨fun h9 => absurd h9 (fun h => c_18 h.2), fun _ => rfl⟩)
    · refine lv_iconst (v := 1) hx hb d_Gp_isAt_21 (by decide) ?_
      refine lv_goto (tgt := 26) hx hb d_Gp_isAt_22 (by decide) ?_
      exact gp_ret M hr rfl hlo d_Gp_isAt_26 (⟨fun _ => rfl, fun h9 => absurd ⟨hlc, c_18⟩ h9⟩)

abbrev rm_Gp_known : Room := { frames := 1, cells := 0, slots := 0, locals := 22 }
set_option maxHeartbeats 4000000 in
set_option maxRecDepth 100000 in
theorem c_Gp_known (l : Launch) {D : gw_D} {Hs : Heap} {G : gw_G} (A : Nat → Nat → Nat) (pm : Nat → Nat) (cnt fd : Nat) (tt xt li : Nat → Int32) (la : Nat → Int64) (hC : cls D G A pm cnt fd tt xt li la) (n1 : Int32) (kp : Nat) (hkp : isPl (fun j => tt (pm j)) cnt n1 kp) (hat : kp < cnt ∧ tt (pm kp) = n1)  : Met l y_Gp_known (Cond.code y_Gp_known b_Gp_known 3 (some (.object "GuardedPackets$Association")) :: tb) rm_Gp_known (gw_Pc D Hs G [.ref (A 0 0), .int n1]) (gp_Sr (fun r => r = A 12 (pm kp))) 0 0 (fun _ => False) := by
  refine gw_met (by decide) (Nat.le_of_ble_eq_true rfl) ?_
  intro p e s m args below meth c M hK hr hlo hin hI ls hl
  have hx := M.1
  have hb := M.2.1
  have hl : lv_has ls 3 [(0, .ref (A 0 0)), (1, .int n1)] := hl
  have hl16 : kp < 16 := Nat.lt_of_lt_of_le hat.1 hC.c16
  refine lv_aload_n hx hb d_Gp_known_0 rfl (lv_at hl 0 rfl) ?_
  refine lv_iload_n hx hb d_Gp_known_1 rfl (lv_at hl 1 rfl) ?_
  refine gp_V (As := [.int n1]) (rest := []) M hK hI (c_Gp_placeOf l A pm cnt fd tt xt li la hC n1 kp hkp) k_Gp_placeOf m_Gp_56 hC.O (ci := 5) rfl (fun x hx => ⟨_, hx⟩) rfl hl.1 rfl (Nat.le_of_ble_eq_true rfl) ⟨rfl, rfl, ⟨Nat.le_of_ble_eq_true rfl, Nat.le_of_ble_eq_true rfl⟩, ⟨Nat.le_of_ble_eq_true rfl, Nat.le_of_ble_eq_true rfl⟩⟩ d_Gp_known_2 (fun x1 h_x1 => ?_)
  subst h_x1
  refine lv_istore_n (lv' := [(2, .int (nI kp)), (0, .ref (A 0 0)), (1, .int n1)]) hx hb d_Gp_known_5 rfl hl (by decide) rfl (fun ls hl => ?_)
  refine lv_aload_n hx hb d_Gp_known_6 rfl (lv_at hl 1 rfl) ?_
  refine lv_iload_n hx hb d_Gp_known_7 rfl (lv_at hl 0 rfl) ?_
  refine lv_iload_n hx hb d_Gp_known_8 rfl (lv_at hl 2 rfl) ?_
  refine gp_V (As := [.int (nI kp), .int n1]) (rest := []) M hK hI (c_Gp_isAt l A pm cnt fd tt xt li la hC kp (Nat.le_trans hkp.1 hC.c16) n1) k_Gp_isAt m_Gp_60 hC.O (ci := 5) rfl (fun x hx => ⟨_, hx⟩) rfl hl.1 rfl (Nat.le_of_ble_eq_true rfl) ⟨rfl, rfl, ⟨Nat.le_of_ble_eq_true rfl, Nat.le_of_ble_eq_true rfl⟩, ⟨Nat.le_of_ble_eq_true rfl, Nat.le_of_ble_eq_true rfl⟩⟩ d_Gp_known_9 (fun x2 h_x2 => ?_)
  have h_x2 := h_x2.1 hat
  subst h_x2
  refine lv_if_ne (tgt := 23) hx hb d_Gp_known_12 (by decide) (fun c_12 => ?_) (fun q9 => absurd q9 (by decide))
  refine lv_aload_n hx hb d_Gp_known_23 rfl (lv_at hl 1 rfl) ?_
  refine gw_get M hK hI hC.O i_Gp rfl 0 (by decide) f_Gp_11 rfl (Pv := fun v => v = .ref (A 1 0)) (fun x hx => ⟨_, _, hx, rfl, rfl⟩) d_Gp_known_24 (fun v hv => ?_)
  subst hv
  refine lv_iload_n hx hb d_Gp_known_27 rfl (lv_at hl 0 rfl) ?_
  refine gw_aald M hK hI 4 rfl hC.arr (vp_in_nI hl16 (by decide)) d_Gp_known_28 (fun r3 h_r3 => ?_)
  rw [nI_clamp (Nat.lt_trans hl16 (by decide))] at h_r3
  subst h_r3
  exact gp_reta M hr hlo d_Gp_known_29 rfl

abbrev rm_Gp_knownx : Room := { frames := 6, cells := 1, slots := 6, locals := 100 }
set_option maxHeartbeats 4000000 in
set_option maxRecDepth 100000 in
theorem c_Gp_knownx (l : Launch) (htr : l.stackTraces = false) {D : gw_D} {Hs : Heap} {G : gw_G} (A : Nat → Nat → Nat) (pm : Nat → Nat) (cnt fd : Nat) (tt xt li : Nat → Int32) (la : Nat → Int64) (hC : cls D G A pm cnt fd tt xt li la) (n1 : Int32) (kp : Nat) (hkp : isPl (fun j => tt (pm j)) cnt n1 kp) (hat : ¬ (kp < cnt ∧ tt (pm kp) = n1))  : xt_Met l y_Gp_known b_Gp_known 3 (some (.object "GuardedPackets$Association")) rm_Gp_knownx D Hs G [.ref (A 0 0), .int n1] "java/lang/IllegalStateException" 1 6 := by
  refine xt_met (by decide) (Nat.le_of_ble_eq_true rfl) ?_
  intro p e s m args below meth c M hK hlo hex hI ls hl
  have hx := M.1
  have hb := M.2.1
  have hl : lv_has ls 3 [(0, .ref (A 0 0)), (1, .int n1)] := hl
  refine lv_aload_n hx hb d_Gp_known_0 rfl (lv_at hl 0 rfl) ?_
  refine lv_iload_n hx hb d_Gp_known_1 rfl (lv_at hl 1 rfl) ?_
  refine gp_V (As := [.int n1]) (rest := []) M hK hI (c_Gp_placeOf l A pm cnt fd tt xt li la hC n1 kp hkp) k_Gp_placeOf m_Gp_56 hC.O (ci := 5) rfl (fun x hx => ⟨_, hx⟩) rfl hl.1 rfl (Nat.le_of_ble_eq_true rfl) ⟨rfl, rfl, ⟨Nat.le_of_ble_eq_true rfl, Nat.le_of_ble_eq_true rfl⟩, ⟨Nat.le_of_ble_eq_true rfl, Nat.le_of_ble_eq_true rfl⟩⟩ d_Gp_known_2 (fun x1 h_x1 => ?_)
  subst h_x1
  refine lv_istore_n (lv' := [(2, .int (nI kp)), (0, .ref (A 0 0)), (1, .int n1)]) hx hb d_Gp_known_5 rfl hl (by decide) rfl (fun ls hl => ?_)
  refine lv_aload_n hx hb d_Gp_known_6 rfl (lv_at hl 1 rfl) ?_
  refine lv_iload_n hx hb d_Gp_known_7 rfl (lv_at hl 0 rfl) ?_
  refine lv_iload_n hx hb d_Gp_known_8 rfl (lv_at hl 2 rfl) ?_
  refine gp_V (As := [.int (nI kp), .int n1]) (rest := []) M hK hI (c_Gp_isAt l A pm cnt fd tt xt li la hC kp (Nat.le_trans hkp.1 hC.c16) n1) k_Gp_isAt m_Gp_60 hC.O (ci := 5) rfl (fun x hx => ⟨_, hx⟩) rfl hl.1 rfl (Nat.le_of_ble_eq_true rfl) ⟨rfl, rfl, ⟨Nat.le_of_ble_eq_true rfl, Nat.le_of_ble_eq_true rfl⟩, ⟨Nat.le_of_ble_eq_true rfl, Nat.le_of_ble_eq_true rfl⟩⟩ d_Gp_known_9 (fun x2 h_x2 => ?_)
  have h_x2 := h_x2.2 hat
  subst h_x2
  refine lv_if_ne (tgt := 23) hx hb d_Gp_known_12 (by decide) (fun q9 => absurd (by decide) q9) (fun c_12 => ?_)
  exact xt_throw M hK hI htr hlo hex (names := ["java/lang/RuntimeException", "java/lang/Exception"]) (ic := 207) (by decide +kernel) (by decide +kernel) q_Gp_205 z_ISE j_ISE at_ISE hl.1 d_Gp_known_15 d_Gp_known_18 d_Gp_known_19 d_Gp_known_22 (by decide) (by decide) (by decide) (by decide)

abbrev rm_Gp_hurryx : Room := { frames := 7, cells := 1, slots := 6, locals := 122 }
set_option maxHeartbeats 4000000 in
set_option maxRecDepth 100000 in
theorem c_Gp_hurryx (l : Launch) (htr : l.stackTraces = false) {D : gw_D} {Hs : Heap} {G : gw_G} (A : Nat → Nat → Nat) (pm : Nat → Nat) (cnt fd : Nat) (tt xt li : Nat → Int32) (la : Nat → Int64) (hC : cls D G A pm cnt fd tt xt li la) (n1 : Int32) (n2 : Int64) (kp : Nat) (hkp : isPl (fun j => tt (pm j)) cnt n1 kp) (hat : ¬ (kp < cnt ∧ tt (pm kp) = n1))  : xt_Met l y_Gp_hurry b_Gp_hurry 5 none rm_Gp_hurryx D Hs G [.ref (A 0 0), .int n1, .long n2] "java/lang/IllegalStateException" 1 6 := by
  refine xt_met (by decide) (Nat.le_of_ble_eq_true rfl) ?_
  intro p e s m args below meth c M hK hlo hex hI ls hl
  have hx := M.1
  have hb := M.2.1
  have hl : lv_has ls 5 [(0, .ref (A 0 0)), (1, .int n1), (2, .long n2)] := hl
  refine lv_aload_n hx hb d_Gp_hurry_0 rfl (lv_at hl 0 rfl) ?_
  refine lv_iload_n hx hb d_Gp_hurry_1 rfl (lv_at hl 1 rfl) ?_
  exact xt_out (As := [.int n1]) (rest := []) M hK hI hlo hex (c_Gp_knownx l htr A pm cnt fd tt xt li la hC n1 kp hkp hat) (k_Gp_known : gk_V _ _ _ _ _) m_Gp_72 hC.O (ci := 5) rfl (fun x hx => ⟨_, hx⟩) rfl hl.1 rfl (Nat.le_of_ble_eq_true rfl) ⟨rfl, rfl, ⟨Nat.le_of_ble_eq_true rfl, Nat.le_of_ble_eq_true rfl⟩, ⟨Nat.le_of_ble_eq_true rfl, Nat.le_of_ble_eq_true rfl⟩⟩ d_Gp_hurry_2

abbrev rm_Gp_lifex : Room := { frames := 7, cells := 1, slots := 6, locals := 122 }
set_option maxHeartbeats 4000000 in
set_option maxRecDepth 100000 in
theorem c_Gp_lifex (l : Launch) (htr : l.stackTraces = false) {D : gw_D} {Hs : Heap} {G : gw_G} (A : Nat → Nat → Nat) (pm : Nat → Nat) (cnt fd : Nat) (tt xt li : Nat → Int32) (la : Nat → Int64) (hC : cls D G A pm cnt fd tt xt li la) (n1 n2 : Int32) (kp : Nat) (hkp : isPl (fun j => tt (pm j)) cnt n1 kp) (hat : ¬ (kp < cnt ∧ tt (pm kp) = n1))  : xt_Met l y_Gp_life b_Gp_life 5 (some .int) rm_Gp_lifex D Hs G [.ref (A 0 0), .int n1, .int n2] "java/lang/IllegalStateException" 1 6 := by
  refine xt_met (by decide) (Nat.le_of_ble_eq_true rfl) ?_
  intro p e s m args below meth c M hK hlo hex hI ls hl
  have hx := M.1
  have hb := M.2.1
  have hl : lv_has ls 5 [(0, .ref (A 0 0)), (1, .int n1), (2, .int n2)] := hl
  refine lv_aload_n hx hb d_Gp_life_0 rfl (lv_at hl 0 rfl) ?_
  refine lv_iload_n hx hb d_Gp_life_1 rfl (lv_at hl 1 rfl) ?_
  exact xt_out (As := [.int n1]) (rest := []) M hK hI hlo hex (c_Gp_knownx l htr A pm cnt fd tt xt li la hC n1 kp hkp hat) (k_Gp_known : gk_V _ _ _ _ _) m_Gp_72 hC.O (ci := 5) rfl (fun x hx => ⟨_, hx⟩) rfl hl.1 rfl (Nat.le_of_ble_eq_true rfl) ⟨rfl, rfl, ⟨Nat.le_of_ble_eq_true rfl, Nat.le_of_ble_eq_true rfl⟩, ⟨Nat.le_of_ble_eq_true rfl, Nat.le_of_ble_eq_true rfl⟩⟩ d_Gp_life_2

abbrev rm_Gp_sealx : Room := { frames := 7, cells := 1, slots := 6, locals := 122 }
set_option maxHeartbeats 4000000 in
set_option maxRecDepth 100000 in
theorem c_Gp_sealx (l : Launch) (htr : l.stackTraces = false) {D : gw_D} {Hs : Heap} {G : gw_G} (A : Nat → Nat → Nat) (pm : Nat → Nat) (cnt fd : Nat) (tt xt li : Nat → Int32) (la : Nat → Int64) (hC : cls D G A pm cnt fd tt xt li la) (n1 n2 : Int32) (kp : Nat) (hkp : isPl (fun j => tt (pm j)) cnt n1 kp) (hat : ¬ (kp < cnt ∧ tt (pm kp) = n1))  : xt_Met l y_Gp_seal b_Gp_seal 5 (some .int) rm_Gp_sealx D Hs G [.ref (A 0 0), .int n1, .int n2] "java/lang/IllegalStateException" 1 6 := by
  refine xt_met (by decide) (Nat.le_of_ble_eq_true rfl) ?_
  intro p e s m args below meth c M hK hlo hex hI ls hl
  have hx := M.1
  have hb := M.2.1
  have hl : lv_has ls 5 [(0, .ref (A 0 0)), (1, .int n1), (2, .int n2)] := hl
  refine lv_aload_n hx hb d_Gp_seal_0 rfl (lv_at hl 0 rfl) ?_
  refine lv_iload_n hx hb d_Gp_seal_1 rfl (lv_at hl 1 rfl) ?_
  exact xt_out (As := [.int n1]) (rest := []) M hK hI hlo hex (c_Gp_knownx l htr A pm cnt fd tt xt li la hC n1 kp hkp hat) (k_Gp_known : gk_V _ _ _ _ _) m_Gp_72 hC.O (ci := 5) rfl (fun x hx => ⟨_, hx⟩) rfl hl.1 rfl (Nat.le_of_ble_eq_true rfl) ⟨rfl, rfl, ⟨Nat.le_of_ble_eq_true rfl, Nat.le_of_ble_eq_true rfl⟩, ⟨Nat.le_of_ble_eq_true rfl, Nat.le_of_ble_eq_true rfl⟩⟩ d_Gp_seal_2

abbrev rm_Gp_toldx : Room := { frames := 7, cells := 1, slots := 6, locals := 122 }
set_option maxHeartbeats 4000000 in
set_option maxRecDepth 100000 in
theorem c_Gp_toldx (l : Launch) (htr : l.stackTraces = false) {D : gw_D} {Hs : Heap} {G : gw_G} (A : Nat → Nat → Nat) (pm : Nat → Nat) (cnt fd : Nat) (tt xt li : Nat → Int32) (la : Nat → Int64) (hC : cls D G A pm cnt fd tt xt li la) (n1 n2 : Int32) (kp : Nat) (hkp : isPl (fun j => tt (pm j)) cnt n1 kp) (hat : ¬ (kp < cnt ∧ tt (pm kp) = n1))  : xt_Met l y_Gp_told b_Gp_told 4 (some .long) rm_Gp_toldx D Hs G [.ref (A 0 0), .int n1, .int n2] "java/lang/IllegalStateException" 1 6 := by
  refine xt_met (by decide) (Nat.le_of_ble_eq_true rfl) ?_
  intro p e s m args below meth c M hK hlo hex hI ls hl
  have hx := M.1
  have hb := M.2.1
  have hl : lv_has ls 4 [(0, .ref (A 0 0)), (1, .int n1), (2, .int n2)] := hl
  refine lv_aload_n hx hb d_Gp_told_0 rfl (lv_at hl 0 rfl) ?_
  refine lv_iload_n hx hb d_Gp_told_1 rfl (lv_at hl 1 rfl) ?_
  exact xt_out (As := [.int n1]) (rest := []) M hK hI hlo hex (c_Gp_knownx l htr A pm cnt fd tt xt li la hC n1 kp hkp hat) (k_Gp_known : gk_V _ _ _ _ _) m_Gp_72 hC.O (ci := 5) rfl (fun x hx => ⟨_, hx⟩) rfl hl.1 rfl (Nat.le_of_ble_eq_true rfl) ⟨rfl, rfl, ⟨Nat.le_of_ble_eq_true rfl, Nat.le_of_ble_eq_true rfl⟩, ⟨Nat.le_of_ble_eq_true rfl, Nat.le_of_ble_eq_true rfl⟩⟩ d_Gp_told_2

abbrev rm_Gp_givenx : Room := { frames := 7, cells := 1, slots := 6, locals := 122 }
set_option maxHeartbeats 4000000 in
set_option maxRecDepth 100000 in
theorem c_Gp_givenx (l : Launch) (htr : l.stackTraces = false) {D : gw_D} {Hs : Heap} {G : gw_G} (A : Nat → Nat → Nat) (pm : Nat → Nat) (cnt fd : Nat) (tt xt li : Nat → Int32) (la : Nat → Int64) (hC : cls D G A pm cnt fd tt xt li la) (n1 n2 : Int32) (kp : Nat) (hkp : isPl (fun j => tt (pm j)) cnt n1 kp) (hat : ¬ (kp < cnt ∧ tt (pm kp) = n1))  : xt_Met l y_Gp_given b_Gp_given 4 (some .long) rm_Gp_givenx D Hs G [.ref (A 0 0), .int n1, .int n2] "java/lang/IllegalStateException" 1 6 := by
  refine xt_met (by decide) (Nat.le_of_ble_eq_true rfl) ?_
  intro p e s m args below meth c M hK hlo hex hI ls hl
  have hx := M.1
  have hb := M.2.1
  have hl : lv_has ls 4 [(0, .ref (A 0 0)), (1, .int n1), (2, .int n2)] := hl
  refine lv_aload_n hx hb d_Gp_given_0 rfl (lv_at hl 0 rfl) ?_
  refine lv_iload_n hx hb d_Gp_given_1 rfl (lv_at hl 1 rfl) ?_
  exact xt_out (As := [.int n1]) (rest := []) M hK hI hlo hex (c_Gp_knownx l htr A pm cnt fd tt xt li la hC n1 kp hkp hat) (k_Gp_known : gk_V _ _ _ _ _) m_Gp_72 hC.O (ci := 5) rfl (fun x hx => ⟨_, hx⟩) rfl hl.1 rfl (Nat.le_of_ble_eq_true rfl) ⟨rfl, rfl, ⟨Nat.le_of_ble_eq_true rfl, Nat.le_of_ble_eq_true rfl⟩, ⟨Nat.le_of_ble_eq_true rfl, Nat.le_of_ble_eq_true rfl⟩⟩ d_Gp_given_2

abbrev rm_Gp_hurryy : Room := { frames := 6, cells := 1, slots := 6, locals := 100 }
set_option maxHeartbeats 4000000 in
set_option maxRecDepth 100000 in
theorem c_Gp_hurryy (l : Launch) (htr : l.stackTraces = false) {D : gw_D} {Hs : Heap} {G : gw_G} (A : Nat → Nat → Nat) (pm : Nat → Nat) (cnt fd : Nat) (tt xt li : Nat → Int32) (la : Nat → Int64) (hC : cls D G A pm cnt fd tt xt li la) (n1 : Int32) (n2 : Int64) (kp : Nat) (hkp : isPl (fun j => tt (pm j)) cnt n1 kp) (hat : kp < cnt ∧ tt (pm kp) = n1)  (hbad : n2 < la (pm kp) ∨ gre (xt (pm kp)) < n2) : xt_Met l y_Gp_hurry b_Gp_hurry 5 none rm_Gp_hurryy D Hs G [.ref (A 0 0), .int n1, .long n2] "java/lang/IllegalArgumentException" 1 6 := by
  refine xt_met (by decide) (Nat.le_of_ble_eq_true rfl) ?_
  intro p e s m args below meth c M hK hlo hex hI ls hl
  have hx := M.1
  have hb := M.2.1
  have hl : lv_has ls 5 [(0, .ref (A 0 0)), (1, .int n1), (2, .long n2)] := hl
  have hi : pm kp < 16 := hC.pmb (Nat.lt_of_lt_of_le hat.1 hC.c16)
  refine lv_aload_n hx hb d_Gp_hurry_0 rfl (lv_at hl 0 rfl) ?_
  refine lv_iload_n hx hb d_Gp_hurry_1 rfl (lv_at hl 1 rfl) ?_
  refine gp_Vr (As := [.int n1]) (rest := []) M hK hI (c_Gp_known l A pm cnt fd tt xt li la hC n1 kp hkp hat) k_Gp_known m_Gp_72 hC.O (ci := 5) rfl (fun x hx => ⟨_, hx⟩) rfl hl.1 rfl (Nat.le_of_ble_eq_true rfl) ⟨rfl, rfl, ⟨Nat.le_of_ble_eq_true rfl, Nat.le_of_ble_eq_true rfl⟩, ⟨Nat.le_of_ble_eq_true rfl, Nat.le_of_ble_eq_true rfl⟩⟩ d_Gp_hurry_2 (fun x1 h_x1 => ?_)
  subst h_x1
  refine lv_astore (lv' := [(4, .ref (A 12 (pm kp))), (0, .ref (A 0 0)), (1, .int n1), (2, .long n2)]) hx hb d_Gp_hurry_5 hl (by decide) rfl (fun ls hl => ?_)
  refine lv_lload_n hx hb d_Gp_hurry_7 rfl (lv_at hl 3 rfl) ?_
  refine lv_aload hx hb d_Gp_hurry_8 (lv_at hl 0 rfl) ?_
  refine gw_get M hK hI (hC.as hi) i_As rfl 7 (by decide) f_Gp_76 rfl (Pv := fun v => v = .long (la (pm kp))) (fun x hx => by obtain ⟨u3, u5, u6, u9, v1, v2, q9⟩ := hx; exact ⟨_, _, q9, rfl, rfl⟩) d_Gp_hurry_10 (fun v hv => ?_)
  subst hv
  refine W.lcmp hx hb d_Gp_hurry_13 ?_
  refine lv_if_lt (tgt := 27) hx hb d_Gp_hurry_14 (by decide) (fun c_14 => ?_) (fun c_14 => ?_)
  · exact xt_throw M hK hI htr hlo hex (names := ["java/lang/RuntimeException", "java/lang/Exception"]) (ic := 55) (by decide +kernel) (by decide +kernel) q_Gp_53 z_IAE j_IAE at_IAE hl.1 d_Gp_hurry_27 d_Gp_hurry_30 d_Gp_hurry_31 d_Gp_hurry_34 (by decide) (by decide) (by decide) (by decide)
  · refine lv_lload_n hx hb d_Gp_hurry_17 rfl (lv_at hl 3 rfl) ?_
    refine lv_aload hx hb d_Gp_hurry_18 (lv_at hl 0 rfl) ?_
    refine gp_Vl (As := []) (rest := [.long n2]) M hK hI (c_As_greatestp l (A 12 (pm kp)) (A 13 (pm kp)) (A 15 (pm kp)) (tt (pm kp)) (xt (pm kp)) (la (pm kp)) (li (pm kp)) (hC.as hi)) k_As_greatest m_Gp_80 (hC.as hi) (ci := 0) rfl (fun x hx => by obtain ⟨u3, u5, u6, u9, v1, v2, q9⟩ := hx; exact ⟨_, q9⟩) rfl hl.1 rfl (Nat.le_of_ble_eq_true rfl) ⟨rfl, rfl, ⟨Nat.le_of_ble_eq_true rfl, Nat.le_of_ble_eq_true rfl⟩, ⟨Nat.le_of_ble_eq_true rfl, Nat.le_of_ble_eq_true rfl⟩⟩ d_Gp_hurry_20 (fun x2 h_x2 => ?_)
    subst h_x2
    refine W.lcmp hx hb d_Gp_hurry_23 ?_
    refine lv_if_le (tgt := 35) hx hb d_Gp_hurry_24 (by decide) (fun q9 => absurd q9 (fun q9 => by rw [lg_cmp_le] at q9; exact absurd (hbad.resolve_left (fun q8 => c_14 ((lg_cmp_lt _ _).mpr q8))) (Int64.not_lt.mpr q9))) (fun c_24 => ?_)
    exact xt_throw M hK hI htr hlo hex (names := ["java/lang/RuntimeException", "java/lang/Exception"]) (ic := 55) (by decide +kernel) (by decide +kernel) q_Gp_53 z_IAE j_IAE at_IAE hl.1 d_Gp_hurry_27 d_Gp_hurry_30 d_Gp_hurry_31 d_Gp_hurry_34 (by decide) (by decide) (by decide) (by decide)

abbrev rm_Gp_lifey : Room := { frames := 6, cells := 1, slots := 6, locals := 100 }
set_option maxHeartbeats 4000000 in
set_option maxRecDepth 100000 in
theorem c_Gp_lifey (l : Launch) (htr : l.stackTraces = false) {D : gw_D} {Hs : Heap} {G : gw_G} (A : Nat → Nat → Nat) (pm : Nat → Nat) (cnt fd : Nat) (tt xt li : Nat → Int32) (la : Nat → Int64) (hC : cls D G A pm cnt fd tt xt li la) (n1 n2 : Int32) (kp : Nat) (hkp : isPl (fun j => tt (pm j)) cnt n1 kp) (hat : kp < cnt ∧ tt (pm kp) = n1)  (hbad : n2 < 0) : xt_Met l y_Gp_life b_Gp_life 5 (some .int) rm_Gp_lifey D Hs G [.ref (A 0 0), .int n1, .int n2] "java/lang/IllegalArgumentException" 1 6 := by
  refine xt_met (by decide) (Nat.le_of_ble_eq_true rfl) ?_
  intro p e s m args below meth c M hK hlo hex hI ls hl
  have hx := M.1
  have hb := M.2.1
  have hl : lv_has ls 5 [(0, .ref (A 0 0)), (1, .int n1), (2, .int n2)] := hl
  have hi : pm kp < 16 := hC.pmb (Nat.lt_of_lt_of_le hat.1 hC.c16)
  refine lv_aload_n hx hb d_Gp_life_0 rfl (lv_at hl 0 rfl) ?_
  refine lv_iload_n hx hb d_Gp_life_1 rfl (lv_at hl 1 rfl) ?_
  refine gp_Vr (As := [.int n1]) (rest := []) M hK hI (c_Gp_known l A pm cnt fd tt xt li la hC n1 kp hkp hat) k_Gp_known m_Gp_72 hC.O (ci := 5) rfl (fun x hx => ⟨_, hx⟩) rfl hl.1 rfl (Nat.le_of_ble_eq_true rfl) ⟨rfl, rfl, ⟨Nat.le_of_ble_eq_true rfl, Nat.le_of_ble_eq_true rfl⟩, ⟨Nat.le_of_ble_eq_true rfl, Nat.le_of_ble_eq_true rfl⟩⟩ d_Gp_life_2 (fun x1 h_x1 => ?_)
  subst h_x1
  refine lv_astore_n (lv' := [(3, .ref (A 12 (pm kp))), (0, .ref (A 0 0)), (1, .int n1), (2, .int n2)]) hx hb d_Gp_life_5 rfl hl (by decide) rfl (fun ls hl => ?_)
  refine lv_iload_n hx hb d_Gp_life_6 rfl (lv_at hl 3 rfl) ?_
  refine lv_if_ge (tgt := 18) hx hb d_Gp_life_7 (by decide) (fun q9 => absurd q9 (Int32.not_le.mpr hbad)) (fun c_7 => ?_)
  exact xt_throw M hK hI htr hlo hex (names := ["java/lang/RuntimeException", "java/lang/Exception"]) (ic := 55) (by decide +kernel) (by decide +kernel) q_Gp_53 z_IAE j_IAE at_IAE hl.1 d_Gp_life_10 d_Gp_life_13 d_Gp_life_14 d_Gp_life_17 (by decide) (by decide) (by decide) (by decide)

abbrev rm_Gp_giveny : Room := { frames := 6, cells := 1, slots := 6, locals := 100 }
set_option maxHeartbeats 4000000 in
set_option maxRecDepth 100000 in
theorem c_Gp_giveny (l : Launch) (htr : l.stackTraces = false) {D : gw_D} {Hs : Heap} {G : gw_G} (A : Nat → Nat → Nat) (pm : Nat → Nat) (cnt fd : Nat) (tt xt li : Nat → Int32) (la : Nat → Int64) (hC : cls D G A pm cnt fd tt xt li la) (n1 n2 : Int32) (kp : Nat) (hkp : isPl (fun j => tt (pm j)) cnt n1 kp) (hat : kp < cnt ∧ tt (pm kp) = n1)  (hbad : n2 < 0) : xt_Met l y_Gp_given b_Gp_given 4 (some .long) rm_Gp_giveny D Hs G [.ref (A 0 0), .int n1, .int n2] "java/lang/IllegalArgumentException" 1 6 := by
  refine xt_met (by decide) (Nat.le_of_ble_eq_true rfl) ?_
  intro p e s m args below meth c M hK hlo hex hI ls hl
  have hx := M.1
  have hb := M.2.1
  have hl : lv_has ls 4 [(0, .ref (A 0 0)), (1, .int n1), (2, .int n2)] := hl
  have hi : pm kp < 16 := hC.pmb (Nat.lt_of_lt_of_le hat.1 hC.c16)
  refine lv_aload_n hx hb d_Gp_given_0 rfl (lv_at hl 0 rfl) ?_
  refine lv_iload_n hx hb d_Gp_given_1 rfl (lv_at hl 1 rfl) ?_
  refine gp_Vr (As := [.int n1]) (rest := []) M hK hI (c_Gp_known l A pm cnt fd tt xt li la hC n1 kp hkp hat) k_Gp_known m_Gp_72 hC.O (ci := 5) rfl (fun x hx => ⟨_, hx⟩) rfl hl.1 rfl (Nat.le_of_ble_eq_true rfl) ⟨rfl, rfl, ⟨Nat.le_of_ble_eq_true rfl, Nat.le_of_ble_eq_true rfl⟩, ⟨Nat.le_of_ble_eq_true rfl, Nat.le_of_ble_eq_true rfl⟩⟩ d_Gp_given_2 (fun x1 h_x1 => ?_)
  subst h_x1
  refine lv_astore_n (lv' := [(3, .ref (A 12 (pm kp))), (0, .ref (A 0 0)), (1, .int n1), (2, .int n2)]) hx hb d_Gp_given_5 rfl hl (by decide) rfl (fun ls hl => ?_)
  refine lv_iload_n hx hb d_Gp_given_6 rfl (lv_at hl 3 rfl) ?_
  refine lv_if_ge (tgt := 18) hx hb d_Gp_given_7 (by decide) (fun q9 => absurd q9 (Int32.not_le.mpr hbad)) (fun c_7 => ?_)
  exact xt_throw M hK hI htr hlo hex (names := ["java/lang/RuntimeException", "java/lang/Exception"]) (ic := 55) (by decide +kernel) (by decide +kernel) q_Gp_53 z_IAE j_IAE at_IAE hl.1 d_Gp_given_10 d_Gp_given_13 d_Gp_given_14 d_Gp_given_17 (by decide) (by decide) (by decide) (by decide)

abbrev rm_Gp_sealy : Room := { frames := 6, cells := 1, slots := 6, locals := 100 }
set_option maxHeartbeats 4000000 in
set_option maxRecDepth 100000 in
theorem c_Gp_sealy (l : Launch) (htr : l.stackTraces = false) {D : gw_D} {Hs : Heap} {G : gw_G} (A : Nat → Nat → Nat) (pm : Nat → Nat) (cnt fd : Nat) (tt xt li : Nat → Int32) (la : Nat → Int64) (hC : cls D G A pm cnt fd tt xt li la) (n1 n2 : Int32) (kp : Nat) (hkp : isPl (fun j => tt (pm j)) cnt n1 kp) (hat : kp < cnt ∧ tt (pm kp) = n1)  (hby : ¬ okB n2) : xt_Met l y_Gp_seal b_Gp_seal 5 (some .int) rm_Gp_sealy D Hs G [.ref (A 0 0), .int n1, .int n2] "java/lang/IllegalArgumentException" 1 6 := by
  refine xt_met (by decide) (Nat.le_of_ble_eq_true rfl) ?_
  intro p e s m args below meth c M hK hlo hex hI ls hl
  have hx := M.1
  have hb := M.2.1
  have hl : lv_has ls 5 [(0, .ref (A 0 0)), (1, .int n1), (2, .int n2)] := hl
  have hi : pm kp < 16 := hC.pmb (Nat.lt_of_lt_of_le hat.1 hC.c16)
  refine lv_aload_n hx hb d_Gp_seal_0 rfl (lv_at hl 0 rfl) ?_
  refine lv_iload_n hx hb d_Gp_seal_1 rfl (lv_at hl 1 rfl) ?_
  refine gp_Vr (As := [.int n1]) (rest := []) M hK hI (c_Gp_known l A pm cnt fd tt xt li la hC n1 kp hkp hat) k_Gp_known m_Gp_72 hC.O (ci := 5) rfl (fun x hx => ⟨_, hx⟩) rfl hl.1 rfl (Nat.le_of_ble_eq_true rfl) ⟨rfl, rfl, ⟨Nat.le_of_ble_eq_true rfl, Nat.le_of_ble_eq_true rfl⟩, ⟨Nat.le_of_ble_eq_true rfl, Nat.le_of_ble_eq_true rfl⟩⟩ d_Gp_seal_2 (fun x1 h_x1 => ?_)
  subst h_x1
  refine lv_astore_n (lv' := [(3, .ref (A 12 (pm kp))), (0, .ref (A 0 0)), (1, .int n1), (2, .int n2)]) hx hb d_Gp_seal_5 rfl hl (by decide) rfl (fun ls hl => ?_)
  refine lv_iload_n hx hb d_Gp_seal_6 rfl (lv_at hl 3 rfl) ?_
  refine gp_S (As := [.int n2]) (rest := []) M hK hI (c_Gp_isByte l n2) k_Gp_isByte m_Gp_96 rfl hl.1 rfl (Nat.le_of_ble_eq_true rfl) ⟨rfl, rfl, ⟨Nat.le_of_ble_eq_true rfl, Nat.le_of_ble_eq_true rfl⟩, ⟨Nat.le_of_ble_eq_true rfl, Nat.le_of_ble_eq_true rfl⟩⟩ d_Gp_seal_7 (fun x2 h_x2 => ?_)
  have h_x2 := h_x2.2 hby
  subst h_x2
  refine lv_if_ne (tgt := 21) hx hb d_Gp_seal_10 (by decide) (fun q9 => absurd (by decide) q9) (fun c_10 => ?_)
  exact xt_throw M hK hI htr hlo hex (names := ["java/lang/RuntimeException", "java/lang/Exception"]) (ic := 55) (by decide +kernel) (by decide +kernel) q_Gp_53 z_IAE j_IAE at_IAE hl.1 d_Gp_seal_13 d_Gp_seal_16 d_Gp_seal_17 d_Gp_seal_20 (by decide) (by decide) (by decide) (by decide)

abbrev rm_Gp_toldy : Room := { frames := 6, cells := 1, slots := 6, locals := 100 }
set_option maxHeartbeats 4000000 in
set_option maxRecDepth 100000 in
theorem c_Gp_toldy (l : Launch) (htr : l.stackTraces = false) {D : gw_D} {Hs : Heap} {G : gw_G} (A : Nat → Nat → Nat) (pm : Nat → Nat) (cnt fd : Nat) (tt xt li : Nat → Int32) (la : Nat → Int64) (hC : cls D G A pm cnt fd tt xt li la) (n1 n2 : Int32) (kp : Nat) (hkp : isPl (fun j => tt (pm j)) cnt n1 kp) (hat : kp < cnt ∧ tt (pm kp) = n1)  (hbad : n2.toInt < 0 ∨ 7 < n2.toInt) : xt_Met l y_Gp_told b_Gp_told 4 (some .long) rm_Gp_toldy D Hs G [.ref (A 0 0), .int n1, .int n2] "java/lang/IllegalArgumentException" 1 6 := by
  refine xt_met (by decide) (Nat.le_of_ble_eq_true rfl) ?_
  intro p e s m args below meth c M hK hlo hex hI ls hl
  have hx := M.1
  have hb := M.2.1
  have hl : lv_has ls 4 [(0, .ref (A 0 0)), (1, .int n1), (2, .int n2)] := hl
  have hi : pm kp < 16 := hC.pmb (Nat.lt_of_lt_of_le hat.1 hC.c16)
  refine lv_aload_n hx hb d_Gp_told_0 rfl (lv_at hl 0 rfl) ?_
  refine lv_iload_n hx hb d_Gp_told_1 rfl (lv_at hl 1 rfl) ?_
  refine gp_Vr (As := [.int n1]) (rest := []) M hK hI (c_Gp_known l A pm cnt fd tt xt li la hC n1 kp hkp hat) k_Gp_known m_Gp_72 hC.O (ci := 5) rfl (fun x hx => ⟨_, hx⟩) rfl hl.1 rfl (Nat.le_of_ble_eq_true rfl) ⟨rfl, rfl, ⟨Nat.le_of_ble_eq_true rfl, Nat.le_of_ble_eq_true rfl⟩, ⟨Nat.le_of_ble_eq_true rfl, Nat.le_of_ble_eq_true rfl⟩⟩ d_Gp_told_2 (fun x1 h_x1 => ?_)
  subst h_x1
  refine lv_astore_n (lv' := [(3, .ref (A 12 (pm kp))), (0, .ref (A 0 0)), (1, .int n1), (2, .int n2)]) hx hb d_Gp_told_5 rfl hl (by decide) rfl (fun ls hl => ?_)
  refine lv_iload_n hx hb d_Gp_told_6 rfl (lv_at hl 3 rfl) ?_
  refine lv_tableOut (tgt := 108) hx hb d_Gp_told_7 hbad (by decide) ?_
  exact xt_throw M hK hI htr hlo hex (names := ["java/lang/RuntimeException", "java/lang/Exception"]) (ic := 55) (by decide +kernel) (by decide +kernel) q_Gp_53 z_IAE j_IAE at_IAE hl.1 d_Gp_told_108 d_Gp_told_111 d_Gp_told_112 d_Gp_told_115 (by decide) (by decide) (by decide) (by decide)

abbrev rm_Gp_feedx : Room := { frames := 6, cells := 1, slots := 6, locals := 100 }
set_option maxHeartbeats 4000000 in
set_option maxRecDepth 100000 in
theorem c_Gp_feedx (l : Launch) (htr : l.stackTraces = false) {D : gw_D} {Hs : Heap} {G : gw_G} (A : Nat → Nat → Nat) (pm : Nat → Nat) (cnt fd : Nat) (tt xt li : Nat → Int32) (la : Nat → Int64) (hC : cls D G A pm cnt fd tt xt li la) (n1 : Int32) (n2 : Int64) (hbad : n1 < 1 ∨ ¬ n1 ≤ 8) : xt_Met l y_Gp_feed b_Gp_feed 5 (some .int) rm_Gp_feedx D Hs G [.ref (A 0 0), .int n1, .long n2] "java/lang/IllegalArgumentException" 1 6 := by
  refine xt_met (by decide) (Nat.le_of_ble_eq_true rfl) ?_
  intro p e s m args below meth c M hK hlo hex hI ls hl
  have hx := M.1
  have hb := M.2.1
  have hl : lv_has ls 5 [(0, .ref (A 0 0)), (1, .int n1), (2, .long n2)] := hl
  refine lv_iload_n hx hb d_Gp_feed_0 rfl (lv_at hl 1 rfl) ?_
  refine lv_iconst (v := 1) hx hb d_Gp_feed_1 (by decide) ?_
  refine lv_icmp_lt (tgt := 11) hx hb d_Gp_feed_2 (by decide) (fun c_2 => ?_) (fun c_2 => ?_)
  · exact xt_throw M hK hI htr hlo hex (names := ["java/lang/RuntimeException", "java/lang/Exception"]) (ic := 55) (by decide +kernel) (by decide +kernel) q_Gp_53 z_IAE j_IAE at_IAE hl.1 d_Gp_feed_11 d_Gp_feed_14 d_Gp_feed_15 d_Gp_feed_18 (by decide) (by decide) (by decide) (by decide)
  · refine lv_iload_n hx hb d_Gp_feed_5 rfl (lv_at hl 1 rfl) ?_
    refine lv_bipush (v := 8) hx hb d_Gp_feed_6 (by decide) ?_
    refine lv_icmp_le (tgt := 19) hx hb d_Gp_feed_8 (by decide) (fun q9 => absurd q9 (hbad.resolve_left c_2)) (fun c_8 => ?_)
    exact xt_throw M hK hI htr hlo hex (names := ["java/lang/RuntimeException", "java/lang/Exception"]) (ic := 55) (by decide +kernel) (by decide +kernel) q_Gp_53 z_IAE j_IAE at_IAE hl.1 d_Gp_feed_11 d_Gp_feed_14 d_Gp_feed_15 d_Gp_feed_18 (by decide) (by decide) (by decide) (by decide)

abbrev rm_Gp_addx : Room := { frames := 6, cells := 1, slots := 6, locals := 100 }
set_option maxHeartbeats 4000000 in
set_option maxRecDepth 100000 in
theorem c_Gp_addx (l : Launch) (htr : l.stackTraces = false) {D : gw_D} {Hs : Heap} {G : gw_G} (A : Nat → Nat → Nat) (pm : Nat → Nat) (cnt fd : Nat) (tt xt li : Nat → Int32) (la : Nat → Int64) (hC : cls D G A pm cnt fd tt xt li la) (n1 : Int32) (kh kl : Int64) (n6 n7 n8 : Int32) (hbad : n1 < 256 ∨ ¬ okW n7) : xt_Met l y_Gp_add b_Gp_add 12 (some .boolean) rm_Gp_addx D Hs G [.ref (A 0 0), .int n1, .long kh, .long kl, .int n6, .int n7, .int n8] "java/lang/IllegalArgumentException" 1 6 := by
  refine xt_met (by decide) (Nat.le_of_ble_eq_true rfl) ?_
  intro p e s m args below meth c M hK hlo hex hI ls hl
  have hx := M.1
  have hb := M.2.1
  have hl : lv_has ls 12 [(0, .ref (A 0 0)), (1, .int n1), (2, .long kh), (4, .long kl), (6, .int n6), (7, .int n7), (8, .int n8)] := hl
  refine lv_iload_n hx hb d_Gp_add_0 rfl (lv_at hl 1 rfl) ?_
  refine lv_sipush (v := 256) hx hb d_Gp_add_1 (by decide) ?_
  refine lv_icmp_lt (tgt := 15) hx hb d_Gp_add_4 (by decide) (fun c_4 => ?_) (fun c_4 => ?_)
  · exact xt_throw M hK hI htr hlo hex (names := ["java/lang/RuntimeException", "java/lang/Exception"]) (ic := 55) (by decide +kernel) (by decide +kernel) q_Gp_53 z_IAE j_IAE at_IAE hl.1 d_Gp_add_15 d_Gp_add_18 d_Gp_add_19 d_Gp_add_22 (by decide) (by decide) (by decide) (by decide)
  · refine lv_iload hx hb d_Gp_add_7 (lv_at hl 5 rfl) ?_
    refine gp_S (As := [.int n7]) (rest := []) M hK hI (c_Gp_isWindow l n7) k_Gp_isWindow m_Gp_49 rfl hl.1 rfl (Nat.le_of_ble_eq_true rfl) ⟨rfl, rfl, ⟨Nat.le_of_ble_eq_true rfl, Nat.le_of_ble_eq_true rfl⟩, ⟨Nat.le_of_ble_eq_true rfl, Nat.le_of_ble_eq_true rfl⟩⟩ d_Gp_add_9 (fun x1 h_x1 => ?_)
    have h_x1 := h_x1.2 (hbad.resolve_left c_4)
    subst h_x1
    refine lv_if_ne (tgt := 23) hx hb d_Gp_add_12 (by decide) (fun q9 => absurd (by decide) q9) (fun c_12 => ?_)
    exact xt_throw M hK hI htr hlo hex (names := ["java/lang/RuntimeException", "java/lang/Exception"]) (ic := 55) (by decide +kernel) (by decide +kernel) q_Gp_53 z_IAE j_IAE at_IAE hl.1 d_Gp_add_15 d_Gp_add_18 d_Gp_add_19 d_Gp_add_22 (by decide) (by decide) (by decide) (by decide)

abbrev rm_Gp_keepx : Room := { frames := 6, cells := 1, slots := 6, locals := 100 }
set_option maxHeartbeats 4000000 in
set_option maxRecDepth 100000 in
theorem c_Gp_keepx (l : Launch) (htr : l.stackTraces = false) {D : gw_D} {Hs : Heap} {G : gw_G} (A : Nat → Nat → Nat) (pm : Nat → Nat) (cnt fd : Nat) (tt xt li : Nat → Int32) (la : Nat → Int64) (hC : cls D G A pm cnt fd tt xt li la) (n1 : Int32) (hpl : ¬ okP n1) : xt_Met l y_Gp_keep b_Gp_keep 2 none rm_Gp_keepx D Hs G [.ref (A 0 0), .int n1] "java/lang/IndexOutOfBoundsException" 1 6 := by
  refine xt_met (by decide) (Nat.le_of_ble_eq_true rfl) ?_
  intro p e s m args below meth c M hK hlo hex hI ls hl
  have hx := M.1
  have hb := M.2.1
  have hl : lv_has ls 2 [(0, .ref (A 0 0)), (1, .int n1)] := hl
  refine lv_iload_n hx hb d_Gp_keep_0 rfl (lv_at hl 1 rfl) ?_
  refine gp_S (As := [.int n1]) (rest := []) M hK hI (c_Gp_isPlace l n1) k_Gp_isPlace m_Gp_140 rfl hl.1 rfl (Nat.le_of_ble_eq_true rfl) ⟨rfl, rfl, ⟨Nat.le_of_ble_eq_true rfl, Nat.le_of_ble_eq_true rfl⟩, ⟨Nat.le_of_ble_eq_true rfl, Nat.le_of_ble_eq_true rfl⟩⟩ d_Gp_keep_1 (fun x1 h_x1 => ?_)
  have h_x1 := h_x1.2 hpl
  subst h_x1
  refine lv_if_ne (tgt := 15) hx hb d_Gp_keep_4 (by decide) (fun q9 => absurd (by decide) q9) (fun c_4 => ?_)
  exact xt_throw M hK hI htr hlo hex (names := ["java/lang/RuntimeException", "java/lang/Exception"]) (ic := 131) (by decide +kernel) (by decide +kernel) q_Gp_129 z_IOE j_IOE at_IOE hl.1 d_Gp_keep_7 d_Gp_keep_10 d_Gp_keep_11 d_Gp_keep_14 (by decide) (by decide) (by decide) (by decide)

abbrev rm_Gp_bringx : Room := { frames := 6, cells := 1, slots := 6, locals := 100 }
set_option maxHeartbeats 4000000 in
set_option maxRecDepth 100000 in
theorem c_Gp_bringx (l : Launch) (htr : l.stackTraces = false) {D : gw_D} {Hs : Heap} {G : gw_G} (A : Nat → Nat → Nat) (pm : Nat → Nat) (cnt fd : Nat) (tt xt li : Nat → Int32) (la : Nat → Int64) (hC : cls D G A pm cnt fd tt xt li la) (n1 : Int32) (hpl : ¬ okP n1) : xt_Met l y_Gp_bring b_Gp_bring 2 (some .int) rm_Gp_bringx D Hs G [.ref (A 0 0), .int n1] "java/lang/IndexOutOfBoundsException" 1 6 := by
  refine xt_met (by decide) (Nat.le_of_ble_eq_true rfl) ?_
  intro p e s m args below meth c M hK hlo hex hI ls hl
  have hx := M.1
  have hb := M.2.1
  have hl : lv_has ls 2 [(0, .ref (A 0 0)), (1, .int n1)] := hl
  refine lv_iload_n hx hb d_Gp_bring_0 rfl (lv_at hl 1 rfl) ?_
  refine gp_S (As := [.int n1]) (rest := []) M hK hI (c_Gp_isPlace l n1) k_Gp_isPlace m_Gp_140 rfl hl.1 rfl (Nat.le_of_ble_eq_true rfl) ⟨rfl, rfl, ⟨Nat.le_of_ble_eq_true rfl, Nat.le_of_ble_eq_true rfl⟩, ⟨Nat.le_of_ble_eq_true rfl, Nat.le_of_ble_eq_true rfl⟩⟩ d_Gp_bring_1 (fun x1 h_x1 => ?_)
  have h_x1 := h_x1.2 hpl
  subst h_x1
  refine lv_if_ne (tgt := 15) hx hb d_Gp_bring_4 (by decide) (fun q9 => absurd (by decide) q9) (fun c_4 => ?_)
  exact xt_throw M hK hI htr hlo hex (names := ["java/lang/RuntimeException", "java/lang/Exception"]) (ic := 131) (by decide +kernel) (by decide +kernel) q_Gp_129 z_IOE j_IOE at_IOE hl.1 d_Gp_bring_7 d_Gp_bring_10 d_Gp_bring_11 d_Gp_bring_14 (by decide) (by decide) (by decide) (by decide)
