theorem arr_up {f : Nat → Option Nat} {A : Nat → Nat → Nat} {p p' : Nat → Nat} {k v : Nat} {y : Int32} (hf : ∀ j, j < 16 → ∃ b, f j = some b ∧ b = A 12 (p j)) (hy : y.toNatClampNeg = k) (hp : ∀ j, j < 16 → j ≠ k → p' j = p j) (hpk : p' k = v) : ∀ j, j < 16 → ∃ b, va_up f y.toNatClampNeg (some (A 12 v)) j = some b ∧ b = A 12 (p' j) := by
  intro j hj
  rw [hy]
  by_cases h : j = k
  · subst h; exact ⟨A 12 v, by simp [va_up], by rw [hpk]⟩
  · obtain ⟨b, h1, h2⟩ := hf j hj
    exact ⟨b, by simp only [va_up, h, if_false]; exact h1, by rw [hp j hj h]; exact h2⟩
theorem gw_up_c {G : gw_G} {a b : Nat} {K K' : va_E → Prop} (h : a ≠ b) : gw_up (gw_up G a K) b K' = gw_up (gw_up G b K') a K := by
  funext q
  by_cases h1 : q = a
  · subst h1; rw [gw_up_n h, gw_up_s, gw_up_s]
  · by_cases h2 : q = b
    · subst h2; rw [gw_up_s, gw_up_n h1, gw_up_s]
    · rw [gw_up_n h2, gw_up_n h1, gw_up_n h1, gw_up_n h2]
/-- the order while a place is made; behind an add; while one goes; behind a drop -/
def sg (k cnt j : Nat) : Nat := if j ≤ k then j else if j ≤ cnt then j - 1 else j
def si (kp cnt j : Nat) : Nat := if j < kp then j else if j = kp then cnt else if j ≤ cnt then j - 1 else j
def sd (kp k j : Nat) : Nat := if kp ≤ j ∧ j < k then j + 1 else j
def sf (kp cnt j : Nat) : Nat := if j < kp then j else if j < cnt - 1 then j + 1 else if j = cnt - 1 then kp else j
theorem sg_0 {cnt : Nat} : (fun j => sg cnt cnt j) = fun j => j := by
  funext j; unfold sg; split <;> (try split) <;> omega
theorem sg_z {cnt j : Nat} : sg cnt cnt j = j := congrFun sg_0 j
theorem sg_s {k cnt j : Nat} (h : j ≠ k) : sg (k - 1) cnt j = sg k cnt j := by unfold sg; split <;> split <;> (try split) <;> omega
theorem sg_k {k cnt : Nat} (h : k ≤ cnt) (h0 : 0 < k) : sg (k - 1) cnt k = k - 1 := by unfold sg; split <;> (try split) <;> omega
theorem si_s {kp cnt j : Nat} (h : j ≠ kp) : si kp cnt j = sg kp cnt j := by unfold si sg; split <;> split <;> (try split) <;> (try split) <;> omega
theorem si_k {kp cnt : Nat} : si kp cnt kp = cnt := by unfold si; simp
theorem si_lt {kp cnt j : Nat} (hk : kp ≤ cnt) (hc : cnt < 16) (hj : j < 16) : si kp cnt j < 16 := by unfold si; split <;> (try split) <;> (try split) <;> omega
theorem si_inj {kp cnt i j : Nat} (hk : kp ≤ cnt) (h : si kp cnt i = si kp cnt j) : i = j := by unfold si at h; split at h <;> split at h <;> (try split at h) <;> (try split at h) <;> (try split at h) <;> (try split at h) <;> omega
theorem sd_0 {kp : Nat} : (fun j => sd kp kp j) = fun j => j := by
  funext j; unfold sd; split <;> omega
theorem sd_z {kp j : Nat} : sd kp kp j = j := congrFun sd_0 j
theorem sd_s {kp k j : Nat} (h : j ≠ k) : sd kp (k + 1) j = sd kp k j := by unfold sd; split <;> split <;> omega
theorem sd_k {kp k : Nat} (h : kp ≤ k) : sd kp (k + 1) k = k + 1 := by unfold sd; split <;> omega
theorem sf_s {kp cnt j : Nat} (hk : kp < cnt) (h : j ≠ cnt - 1) : sf kp cnt j = sd kp (cnt - 1) j := by unfold sf sd; split <;> (try split) <;> (try split) <;> omega
theorem sf_k {kp cnt : Nat} (hk : kp < cnt) : sf kp cnt (cnt - 1) = kp := by unfold sf; split <;> (try split) <;> (try split) <;> omega
theorem sf_lt {kp cnt j : Nat} (hk : kp < cnt) (hc : cnt ≤ 16) (hj : j < 16) : sf kp cnt j < 16 := by unfold sf; split <;> (try split) <;> (try split) <;> omega
theorem sf_inj {kp cnt i j : Nat} (hk : kp < cnt) (h : sf kp cnt i = sf kp cnt j) : i = j := by unfold sf at h; split at h <;> split at h <;> (try split at h) <;> (try split at h) <;> (try split at h) <;> (try split at h) <;> omega
/-- what the class may write -/
def own (A : Nat → Nat → Nat) (b : Nat) : Prop := b = A 0 0 ∨ b = A 1 0 ∨ b = A 2 0 ∨ ∃ i, i < 16 ∧ b = A 12 i

abbrev rm_Gp_addf : Room := { frames := 1, cells := 0, slots := 0, locals := 22 }
set_option maxHeartbeats 4000000 in
set_option maxRecDepth 100000 in
theorem c_Gp_addf (l : Launch) {D : gw_D} {Hs : Heap} {G : gw_G} (A : Nat → Nat → Nat) (pm : Nat → Nat) (cnt fd : Nat) (tt xt li : Nat → Int32) (la : Nat → Int64) (hC : cls D G A pm cnt fd tt xt li la) (n1 : Int32) (kh kl : Int64) (n6 n7 n8 : Int32) (hok : ¬ n1 < 256 ∧ okW n7) (kp : Nat) (hkp : isPl (fun j => tt (pm j)) cnt n1 kp)  (hful : 16 ≤ cnt ∨ (kp < cnt ∧ tt (pm kp) = n1)) : Met l y_Gp_add (Cond.code y_Gp_add b_Gp_add 12 (some .boolean) :: tb) rm_Gp_addf (gw_Pc D Hs G [.ref (A 0 0), .int n1, .long kh, .long kl, .int n6, .int n7, .int n8]) (gw_Qi D Hs (fun r G1 => r = 0 ∧ G1 = G)) 0 0 (gw_A Hs) := by
  refine gw_met (by decide) (Nat.le_of_ble_eq_true rfl) ?_
  intro p e s m args below meth c M hK hr hlo hin hI ls hl
  have hx := M.1
  have hb := M.2.1
  have hl : lv_has ls 12 [(0, .ref (A 0 0)), (1, .int n1), (2, .long kh), (4, .long kl), (6, .int n6), (7, .int n7), (8, .int n8)] := hl
  have hwi := hok.2
  refine lv_iload_n hx hb d_Gp_add_0 rfl (lv_at hl 1 rfl) ?_
  refine lv_sipush (v := 256) hx hb d_Gp_add_1 (by decide) ?_
  refine lv_icmp_lt (tgt := 15) hx hb d_Gp_add_4 (by decide) (fun q9 => absurd q9 hok.1) (fun c_4 => ?_)
  refine lv_iload hx hb d_Gp_add_7 (lv_at hl 5 rfl) ?_
  refine gp_S (As := [.int n7]) (rest := []) M hK hI (c_Gp_isWindow l n7) k_Gp_isWindow m_Gp_49 rfl hl.1 rfl (Nat.le_of_ble_eq_true rfl) ⟨rfl, rfl, ⟨Nat.le_of_ble_eq_true rfl, Nat.le_of_ble_eq_true rfl⟩, ⟨Nat.le_of_ble_eq_true rfl, Nat.le_of_ble_eq_true rfl⟩⟩ d_Gp_add_9 (fun x1 h_x1 => ?_)
  have h_x1 := h_x1.1 hwi
  subst h_x1
  refine lv_if_ne (tgt := 23) hx hb d_Gp_add_12 (by decide) (fun c_12 => ?_) (fun q9 => absurd q9 (by decide))
  refine lv_aload_n hx hb d_Gp_add_23 rfl (lv_at hl 0 rfl) ?_
  refine lv_iload_n hx hb d_Gp_add_24 rfl (lv_at hl 1 rfl) ?_
  refine gp_V (As := [.int n1]) (rest := []) M hK hI (c_Gp_placeOf l A pm cnt fd tt xt li la hC n1 kp hkp) k_Gp_placeOf m_Gp_56 hC.O (ci := 5) rfl (fun x hx => ⟨_, hx⟩) rfl hl.1 rfl (Nat.le_of_ble_eq_true rfl) ⟨rfl, rfl, ⟨Nat.le_of_ble_eq_true rfl, Nat.le_of_ble_eq_true rfl⟩, ⟨Nat.le_of_ble_eq_true rfl, Nat.le_of_ble_eq_true rfl⟩⟩ d_Gp_add_25 (fun x2 h_x2 => ?_)
  subst h_x2
  refine lv_istore (lv' := [(9, .int (nI kp)), (0, .ref (A 0 0)), (1, .int n1), (2, .long kh), (4, .long kl), (6, .int n6), (7, .int n7), (8, .int n8)]) hx hb d_Gp_add_28 hl (by decide) rfl (fun ls hl => ?_)
  refine lv_aload_n hx hb d_Gp_add_30 rfl (lv_at hl 1 rfl) ?_
  refine gw_get M hK hI hC.O i_Gp rfl 1 (by decide) f_Gp_15 rfl (Pv := fun v => v = .int (nI cnt)) (fun x hx => ⟨_, _, hx, rfl, rfl⟩) d_Gp_add_31 (fun v hv => ?_)
  subst hv
  refine lv_bipush (v := 16) hx hb d_Gp_add_34 (by decide) ?_
  refine lv_icmp_ge (tgt := 49) hx hb d_Gp_add_36 (by decide) (fun c_36 => ?_) (fun c_36 => ?_)
  · refine lv_iconst (v := 0) hx hb d_Gp_add_49 (by decide) ?_
    exact gw_zret M hr rfl hlo hI d_Gp_add_50 (⟨rfl, rfl⟩)
  · have hat := hful.resolve_left (fun q9 => c_36 (nI_le q9 (Nat.lt_of_le_of_lt hC.c16 (by decide))))
    refine lv_aload_n hx hb d_Gp_add_39 rfl (lv_at hl 1 rfl) ?_
    refine lv_iload hx hb d_Gp_add_40 (lv_at hl 0 rfl) ?_
    refine lv_iload_n hx hb d_Gp_add_42 rfl (lv_at hl 2 rfl) ?_
    refine gp_V (As := [.int (nI kp), .int n1]) (rest := []) M hK hI (c_Gp_isAt l A pm cnt fd tt xt li la hC kp (Nat.le_trans hkp.1 hC.c16) n1) k_Gp_isAt m_Gp_60 hC.O (ci := 5) rfl (fun x hx => ⟨_, hx⟩) rfl hl.1 rfl (Nat.le_of_ble_eq_true rfl) ⟨rfl, rfl, ⟨Nat.le_of_ble_eq_true rfl, Nat.le_of_ble_eq_true rfl⟩, ⟨Nat.le_of_ble_eq_true rfl, Nat.le_of_ble_eq_true rfl⟩⟩ d_Gp_add_43 (fun x3 h_x3 => ?_)
    have h_x3 := h_x3.1 hat
    subst h_x3
    refine lv_if_eq (tgt := 51) hx hb d_Gp_add_46 (by decide) (fun q9 => absurd q9 (by decide)) (fun c_46 => ?_)
    refine lv_iconst (v := 0) hx hb d_Gp_add_49 (by decide) ?_
    exact gw_zret M hr rfl hlo hI d_Gp_add_50 (⟨rfl, rfl⟩)

theorem nb_lt9 {x : Int32} {k n : Nat} (hx : x = nI k) (h : ¬ x ≤ nI n) (hn : n < 2 ^ 31) (hk : k < 2 ^ 31) : n < k := by
  rw [hx, Int32.le_iff_toInt_le, nI_toInt hn, nI_toInt hk] at h
  omega
theorem nb_le9 {x : Int32} {k n : Nat} (hx : x = nI k) (h : x ≤ nI n) (hn : n < 2 ^ 31) (hk : k < 2 ^ 31) : k ≤ n := by
  rw [hx, Int32.le_iff_toInt_le, nI_toInt hn, nI_toInt hk] at h
  omega

abbrev rm_Gp_add : Room := { frames := 4, cells := 0, slots := 0, locals := 100 }
set_option maxHeartbeats 4000000 in
set_option maxRecDepth 100000 in
theorem c_Gp_add (l : Launch) {D : gw_D} {Hs : Heap} {G : gw_G} (A : Nat → Nat → Nat) (pm : Nat → Nat) (cnt fd : Nat) (tt xt li : Nat → Int32) (la : Nat → Int64) (hC : cls D G A pm cnt fd tt xt li la) (n1 : Int32) (kh kl : Int64) (n6 n7 n8 : Int32) (hok : ¬ n1 < 256 ∧ okW n7) (kp : Nat) (hkp : isPl (fun j => tt (pm j)) cnt n1 kp)  (h8 : n8 = 0 ∨ n8 = 1) (hcl : cnt < 16) (hat : ¬ (kp < cnt ∧ tt (pm kp) = n1)) : Met l y_Gp_add (Cond.code y_Gp_add b_Gp_add 12 (some .boolean) :: tb) rm_Gp_add (gw_Pc D Hs G [.ref (A 0 0), .int n1, .long kh, .long kl, .int n6, .int n7, .int n8]) (gw_Qi D Hs (fun r G1 => r = 1 ∧ cls D G1 A (fun j => pm (si kp cnt j)) (cnt + 1) fd (fup tt (pm cnt) n1) (fup xt (pm cnt) n8) (fup li (pm cnt) 1000000000) (fup la (pm cnt) 0) ∧ gw_fr (own A) G G1)) 0 0 (gw_A Hs) := by
  refine gw_met (by decide) (Nat.le_of_ble_eq_true rfl) ?_
  intro p e s m args below meth c M hK hr hlo hin hI ls hl
  have hx := M.1
  have hb := M.2.1
  have hl : lv_has ls 12 [(0, .ref (A 0 0)), (1, .int n1), (2, .long kh), (4, .long kl), (6, .int n6), (7, .int n7), (8, .int n8)] := hl
  have hwi := hok.2
  have hkc := hkp.1
  have hi : pm cnt < 16 := hC.pmb hcl
  have hc31 : cnt < 2 ^ 31 := Nat.lt_trans hcl (by decide)
  have hI0 := hI
  refine lv_iload_n hx hb d_Gp_add_0 rfl (lv_at hl 1 rfl) ?_
  refine lv_sipush (v := 256) hx hb d_Gp_add_1 (by decide) ?_
  refine lv_icmp_lt (tgt := 15) hx hb d_Gp_add_4 (by decide) (fun q9 => absurd q9 hok.1) (fun c_4 => ?_)
  refine lv_iload hx hb d_Gp_add_7 (lv_at hl 5 rfl) ?_
  refine gp_S (As := [.int n7]) (rest := []) M hK hI (c_Gp_isWindow l n7) k_Gp_isWindow m_Gp_49 rfl hl.1 rfl (Nat.le_of_ble_eq_true rfl) ⟨rfl, rfl, ⟨Nat.le_of_ble_eq_true rfl, Nat.le_of_ble_eq_true rfl⟩, ⟨Nat.le_of_ble_eq_true rfl, Nat.le_of_ble_eq_true rfl⟩⟩ d_Gp_add_9 (fun x1 h_x1 => ?_)
  have h_x1 := h_x1.1 hwi
  subst h_x1
  refine lv_if_ne (tgt := 23) hx hb d_Gp_add_12 (by decide) (fun c_12 => ?_) (fun q9 => absurd q9 (by decide))
  refine lv_aload_n hx hb d_Gp_add_23 rfl (lv_at hl 0 rfl) ?_
  refine lv_iload_n hx hb d_Gp_add_24 rfl (lv_at hl 1 rfl) ?_
  refine gp_V (As := [.int n1]) (rest := []) M hK hI (c_Gp_placeOf l A pm cnt fd tt xt li la hC n1 kp hkp) k_Gp_placeOf m_Gp_56 hC.O (ci := 5) rfl (fun x hx => ⟨_, hx⟩) rfl hl.1 rfl (Nat.le_of_ble_eq_true rfl) ⟨rfl, rfl, ⟨Nat.le_of_ble_eq_true rfl, Nat.le_of_ble_eq_true rfl⟩, ⟨Nat.le_of_ble_eq_true rfl, Nat.le_of_ble_eq_true rfl⟩⟩ d_Gp_add_25 (fun x2 h_x2 => ?_)
  subst h_x2
  refine lv_istore (lv' := [(9, .int (nI kp)), (0, .ref (A 0 0)), (1, .int n1), (2, .long kh), (4, .long kl), (6, .int n6), (7, .int n7), (8, .int n8)]) hx hb d_Gp_add_28 hl (by decide) rfl (fun ls hl => ?_)
  refine lv_aload_n hx hb d_Gp_add_30 rfl (lv_at hl 1 rfl) ?_
  refine gw_get M hK hI hC.O i_Gp rfl 1 (by decide) f_Gp_15 rfl (Pv := fun v => v = .int (nI cnt)) (fun x hx => ⟨_, _, hx, rfl, rfl⟩) d_Gp_add_31 (fun v hv => ?_)
  subst hv
  refine lv_bipush (v := 16) hx hb d_Gp_add_34 (by decide) ?_
  refine lv_icmp_ge (tgt := 49) hx hb d_Gp_add_36 (by decide) (fun q9 => absurd q9 (fun q9 => absurd (nb_ge (n := 16) rfl q9 (by decide) hc31) (Nat.not_le.mpr hcl))) (fun c_36 => ?_)
  refine lv_aload_n hx hb d_Gp_add_39 rfl (lv_at hl 1 rfl) ?_
  refine lv_iload hx hb d_Gp_add_40 (lv_at hl 0 rfl) ?_
  refine lv_iload_n hx hb d_Gp_add_42 rfl (lv_at hl 2 rfl) ?_
  refine gp_V (As := [.int (nI kp), .int n1]) (rest := []) M hK hI (c_Gp_isAt l A pm cnt fd tt xt li la hC kp (Nat.le_trans hkp.1 hC.c16) n1) k_Gp_isAt m_Gp_60 hC.O (ci := 5) rfl (fun x hx => ⟨_, hx⟩) rfl hl.1 rfl (Nat.le_of_ble_eq_true rfl) ⟨rfl, rfl, ⟨Nat.le_of_ble_eq_true rfl, Nat.le_of_ble_eq_true rfl⟩, ⟨Nat.le_of_ble_eq_true rfl, Nat.le_of_ble_eq_true rfl⟩⟩ d_Gp_add_43 (fun x3 h_x3 => ?_)
  have h_x3 := h_x3.2 hat
  subst h_x3
  refine lv_if_eq (tgt := 51) hx hb d_Gp_add_46 (by decide) (fun c_46 => ?_) (fun q9 => absurd (by decide) q9)
  refine lv_aload_n hx hb d_Gp_add_51 rfl (lv_at hl 1 rfl) ?_
  refine gw_get M hK hI hC.O i_Gp rfl 0 (by decide) f_Gp_11 rfl (Pv := fun v => v = .ref (A 1 0)) (fun x hx => ⟨_, _, hx, rfl, rfl⟩) d_Gp_add_52 (fun v hv => ?_)
  subst hv
  refine lv_aload_n hx hb d_Gp_add_55 rfl (lv_at hl 1 rfl) ?_
  refine gw_get M hK hI hC.O i_Gp rfl 1 (by decide) f_Gp_15 rfl (Pv := fun v => v = .int (nI cnt)) (fun x hx => ⟨_, _, hx, rfl, rfl⟩) d_Gp_add_56 (fun v hv => ?_)
  subst hv
  refine gw_aald M hK hI 4 rfl hC.arr (vp_in_nI hcl (by decide)) d_Gp_add_59 (fun r4 h_r4 => ?_)
  rw [nI_clamp hc31] at h_r4
  subst h_r4
  refine lv_astore (lv' := [(10, .ref (A 12 (pm cnt))), (9, .int (nI kp)), (0, .ref (A 0 0)), (1, .int n1), (2, .long kh), (4, .long kl), (6, .int n6), (7, .int n7), (8, .int n8)]) hx hb d_Gp_add_60 hl (by decide) rfl (fun ls hl => ?_)
  refine lv_aload_n hx hb d_Gp_add_62 rfl (lv_at hl 2 rfl) ?_
  refine gw_get M hK hI hC.O i_Gp rfl 1 (by decide) f_Gp_15 rfl (Pv := fun v => v = .int (nI cnt)) (fun x hx => ⟨_, _, hx, rfl, rfl⟩) d_Gp_add_63 (fun v hv => ?_)
  subst hv
  refine lv_istore (lv' := [(11, .int (nI cnt)), (10, .ref (A 12 (pm cnt))), (9, .int (nI kp)), (0, .ref (A 0 0)), (1, .int n1), (2, .long kh), (4, .long kl), (6, .int n6), (7, .int n7), (8, .int n8)]) hx hb d_Gp_add_66 hl (by decide) rfl (fun ls hl => ?_)
  have L_68 : ∀ (n9 : Nat) (k : Nat) (y11 : Int32) (Gk : gw_G) (H : Heap) (locs : List Loc) (ls : Array Slot), kp ≤ k ∧ k ≤ cnt → y11 = nI k → Gk = gw_up G (A 1 0) (kR D 4 16 (fun j b => b = A 12 (pm (sg k cnt j)))) → k < n9 → gw_I D Hs Gk s.heap H locs → lv_has ls 12 [(11, .int y11), (10, .ref (A 12 (pm cnt))), (9, .int (nI kp)), (0, .ref (A 0 0)), (1, .int n1), (2, .long kh), (4, .long kl), (6, .int n6), (7, .int n7), (8, .int n8)] → W p l e rm_Gp_add s m args below meth c H locs 0 0 (MQ below (gw_Qi D Hs (fun r G1 => r = 1 ∧ cls D G1 A (fun j => pm (si kp cnt j)) (cnt + 1) fd (fup tt (pm cnt) n1) (fup xt (pm cnt) n8) (fup li (pm cnt) 1000000000) (fup la (pm cnt) 0) ∧ gw_fr (own A) G G1)) args s 0 0 (gw_A Hs)) (F0 m 68 ls []) := by
    intro n9
    induction n9 with
    | zero =>
      intro k y11 Gk H locs ls hkk hk hGe hm hI hl
      exact absurd hm (Nat.not_lt_zero _)
    | succ n9 ih_68 =>
      intro k y11 Gk H locs ls hkk hk hGe hm_68 hI hl
      have hAk : Gk (A 1 0) = some (kR D 4 16 (fun j b => b = A 12 (pm (sg k cnt j)))) := by rw [hGe]; exact gw_up_s
      have hOk : Gk (A 0 0) = some (kGp A cnt) := by rw [hGe, gw_up_n (gw_nec hI0 hC.O hC.arr gt_Gp gt_R (by decide))]; exact hC.O
      have hEk : ∀ {i : Nat}, i < 16 → Gk (A 12 i) = some (kAp (A 13 i) (A 15 i) (tt i) (xt i) (la i) (li i)) := fun h9 => by rw [hGe, gw_up_n (gw_nec hI0 (hC.as h9) hC.arr gt_Ap gt_R (by decide))]; exact hC.as h9
      refine lv_iload hx hb d_Gp_add_68 (lv_at hl 0 rfl) ?_
      refine lv_iload hx hb d_Gp_add_70 (lv_at hl 2 rfl) ?_
      refine lv_icmp_le (tgt := 97) hx hb d_Gp_add_72 (by decide) (fun c_72 => ?_) (fun c_72 => ?_)
      · have hke : k = kp := Nat.le_antisymm (nb_le9 hk c_72 (by omega) (by omega)) hkk.1
        subst hke
        refine lv_aload_n hx hb d_Gp_add_97 rfl (lv_at hl 3 rfl) ?_
        refine gw_get M hK hI hOk i_Gp rfl 0 (by decide) f_Gp_11 rfl (Pv := fun v => v = .ref (A 1 0)) (fun x hx => ⟨_, _, hx, rfl, rfl⟩) d_Gp_add_98 (fun v hv => ?_)
        subst hv
        refine lv_iload hx hb d_Gp_add_101 (lv_at hl 2 rfl) ?_
        refine lv_aload hx hb d_Gp_add_103 (lv_at hl 1 rfl) ?_
        obtain ⟨-, x9, ⟨f9, hf9, rfl⟩, hat9⟩ := hI.1.2.2 (A 1 0) _ hAk
        refine gw_aast M hK hI 4 0 rfl rfl hAk hat9 (hEk hi) (fun x hx => by obtain ⟨u3, u5, u6, u9, v1, v2, q9⟩ := hx; exact ⟨_, q9⟩) (vp_in_nI (by omega) (by decide)) (kR D 4 16 (fun j b => b = A 12 (pm (si k cnt j)))) ⟨_, arr_up hf9 (nI_clamp (by omega)) (p := fun j => pm (sg k cnt j)) (p' := fun j => pm (si k cnt j)) (fun j _ h9 => congrArg pm (si_s h9)) (congrArg pm si_k), rfl⟩ d_Gp_add_105 (fun H locs hI => ?_)
        obtain ⟨G5, hGz⟩ : ∃ z, z = gw_up G (A 1 0) (kR D 4 16 (fun j b => b = A 12 (pm (si k cnt j)))) := ⟨_, rfl⟩
        have hI : gw_I D Hs G5 s.heap H locs := by rw [hGz]; rw [hGe, gw_up_up] at hI; exact hI
        have hO9 : G5 (A 0 0) = some (kGp A cnt) := by rw [hGz, gw_up_n (gw_nec hI0 hC.O hC.arr gt_Gp gt_R (by decide))]; exact hC.O
        refine lv_aload_n hx hb d_Gp_add_106 rfl (lv_at hl 3 rfl) ?_
        refine lv_dup hx hb d_Gp_add_107 rfl ?_
        refine gw_get M hK hI hO9 i_Gp rfl 1 (by decide) f_Gp_15 rfl (Pv := fun v => v = .int (nI cnt)) (fun x hx => ⟨_, _, hx, rfl, rfl⟩) d_Gp_add_108 (fun v hv => ?_)
        subst hv
        refine lv_iconst (v := 1) hx hb d_Gp_add_111 (by decide) ?_
        refine lv_iadd hx hb d_Gp_add_112 ?_
        refine lv_topi (fun x6 e_x6 => ?_)
        refine gw_put M hK hI hO9 i_Gp t_Gp tk_Gp n_Gp rfl 1 (by decide) f_Gp_15 rfl rfl rfl (kx (.inr (5, [.ref (A 1 0), .int x6, .ref (A 2 0), .ref (A 3 0), .ref (A 4 0), .ref (A 5 0), .ref (A 6 0), .ref (A 7 0)]))) (fun x hx => ⟨_, hx, Nat.le_of_ble_eq_true rfl, rfl⟩) d_Gp_add_113 (fun H locs hI => ?_)
        obtain ⟨G7, hE_G7⟩ : ∃ z9, gw_up G5 (A 0 0) (kx (.inr (5, [.ref (A 1 0), .int x6, .ref (A 2 0), .ref (A 3 0), .ref (A 4 0), .ref (A 5 0), .ref (A 6 0), .ref (A 7 0)]))) = z9 := ⟨_, rfl⟩
        rw [hE_G7] at hI
        have hG9 : G7 (A 0 0) = some (kx (.inr (5, [.ref (A 1 0), .int x6, .ref (A 2 0), .ref (A 3 0), .ref (A 4 0), .ref (A 5 0), .ref (A 6 0), .ref (A 7 0)]))) := by rw [← hE_G7]; exact gw_up_s
        have hs8 : gw_fr (fun b => b = (A 0 0)) G5 G7 := by rw [← hE_G7]; exact gw_fr.up rfl
        have hC3 : cls D G7 A (fun j => pm (si k cnt j)) (cnt + 1) fd tt xt li la := by
          have h9 := hC.arrup hI0 (p1 := fun j => pm (si k cnt j)) (n := cnt + 1) hcl (fun j hj => hC.pmb (si_lt hkc hcl hj)) (fun i j hi hj e => si_inj hkc (hC.p.2.2.2.1 _ _ (si_lt hkc hcl hi) (si_lt hkc hcl hj) e))
          rw [← hE_G7, e_x6, hGz, nI_1]; exact h9
        have hfr3 : gw_fr (own A) G G7 := by rw [← hE_G7, hGz]; exact gw_fr.tr (gw_fr.up (Or.inr (Or.inl rfl))) (gw_fr.up (Or.inl rfl))
        refine lv_aload hx hb d_Gp_add_116 (lv_at hl 1 rfl) ?_
        refine lv_iload_n hx hb d_Gp_add_118 rfl (lv_at hl 4 rfl) ?_
        refine lv_iload hx hb d_Gp_add_119 (lv_at hl 7 rfl) ?_
        refine lv_iload hx hb d_Gp_add_121 (lv_at hl 8 rfl) ?_
        refine lv_iload hx hb d_Gp_add_123 (lv_at hl 9 rfl) ?_
        have hI3 := hI
        refine gw_Vv (As := [.int n1, .int n6, .int n7, .int n8]) (rest := []) M hK hI (c_As_beginj l n1 n6 n7 n8 h8 hok.2.v (A 12 (pm cnt)) (A 13 (pm cnt)) (A 15 (pm cnt)) (tt (pm cnt)) (xt (pm cnt)) (la (pm cnt)) (li (pm cnt)) (hC3.as hi) (A 16 (pm cnt)) (hC3.wi hi) (hC3.bi hi)) k_As_begin m_Gp_64 (hC3.as hi) (ci := 0) rfl (fun x hx => by obtain ⟨u3, u5, u6, u9, v1, v2, q9⟩ := hx; exact ⟨_, q9⟩) rfl hl.1 rfl (Nat.le_of_ble_eq_true rfl) ⟨rfl, rfl, ⟨Nat.le_of_ble_eq_true rfl, Nat.le_of_ble_eq_true rfl⟩, ⟨Nat.le_of_ble_eq_true rfl, Nat.le_of_ble_eq_true rfl⟩⟩ d_Gp_add_125 (fun G10 H locs hw hI => ?_)
        have hC4 : cls D G10 A (fun j => pm (si k cnt j)) (cnt + 1) fd (fup tt (pm cnt) n1) (fup xt (pm cnt) n8) (fup li (pm cnt) 1000000000) (fup la (pm cnt) 0) := by rw [hw]; exact hC3.asup hI3 hi n1 n8 1000000000 0 h8
        have hfr4 : gw_fr (own A) G G10 := by rw [hw]; exact gw_fr.tr hfr3 (gw_fr.up (Or.inr (Or.inr (Or.inr ⟨_, hi, rfl⟩))))
        refine lv_aload hx hb d_Gp_add_128 (lv_at hl 1 rfl) ?_
        refine lv_lload_n hx hb d_Gp_add_130 rfl (lv_at hl 5 rfl) ?_
        refine lv_lload hx hb d_Gp_add_131 (lv_at hl 6 rfl) ?_
        refine gw_Vv (As := [.long kh, .long kl]) (rest := []) M hK hI (c_As_takeKeyj l kh kl (A 12 (pm cnt)) (A 13 (pm cnt)) (A 15 (pm cnt)) (fup tt (pm cnt) n1 (pm cnt)) (fup xt (pm cnt) n8 (pm cnt)) (fup la (pm cnt) 0 (pm cnt)) (fup li (pm cnt) 1000000000 (pm cnt)) (hC4.as hi) (A 14 (pm cnt)) (hC4.ci hi) (hC4.wo hi)) k_As_takeKey m_Gp_68 (hC4.as hi) (ci := 0) rfl (fun x hx => by obtain ⟨u3, u5, u6, u9, v1, v2, q9⟩ := hx; exact ⟨_, q9⟩) rfl hl.1 rfl (Nat.le_of_ble_eq_true rfl) ⟨rfl, rfl, ⟨Nat.le_of_ble_eq_true rfl, Nat.le_of_ble_eq_true rfl⟩, ⟨Nat.le_of_ble_eq_true rfl, Nat.le_of_ble_eq_true rfl⟩⟩ d_Gp_add_133 (fun G9 H locs hw hI => ?_)
        rw [hw] at hI
        refine lv_iconst (v := 1) hx hb d_Gp_add_136 (by decide) ?_
        exact gw_zret M hr rfl hlo hI d_Gp_add_137 (⟨rfl, hC4, hfr4⟩)
      · have hlt : kp < k := nb_lt9 hk c_72 (by omega) (by omega)
        have hk1 : y11 - 1 = nI (k - 1) := nb_sub hk 1 (by omega)
        refine lv_aload_n hx hb d_Gp_add_75 rfl (lv_at hl 3 rfl) ?_
        refine gw_get M hK hI hOk i_Gp rfl 0 (by decide) f_Gp_11 rfl (Pv := fun v => v = .ref (A 1 0)) (fun x hx => ⟨_, _, hx, rfl, rfl⟩) d_Gp_add_76 (fun v hv => ?_)
        subst hv
        refine lv_iload hx hb d_Gp_add_79 (lv_at hl 0 rfl) ?_
        refine lv_aload_n hx hb d_Gp_add_81 rfl (lv_at hl 3 rfl) ?_
        refine gw_get M hK hI hOk i_Gp rfl 0 (by decide) f_Gp_11 rfl (Pv := fun v => v = .ref (A 1 0)) (fun x hx => ⟨_, _, hx, rfl, rfl⟩) d_Gp_add_82 (fun v hv => ?_)
        subst hv
        refine lv_iload hx hb d_Gp_add_85 (lv_at hl 0 rfl) ?_
        refine lv_iconst (v := 1) hx hb d_Gp_add_87 (by decide) ?_
        refine lv_isub hx hb d_Gp_add_88 ?_
        refine gw_aald M hK hI 4 rfl hAk (nb_in hk1 (by omega)) d_Gp_add_89 (fun r11 h_r11 => ?_)
        have hc9 : (y11 - 1).toNatClampNeg = k - 1 := by rw [hk1]; exact nI_clamp (by omega)
        have hs9 : sg k cnt (k - 1) = k - 1 := by unfold sg; split <;> omega
        simp only [hc9, hs9] at h_r11
        subst h_r11
        obtain ⟨-, x9, ⟨f9, hf9, rfl⟩, hat9⟩ := hI.1.2.2 (A 1 0) _ hAk
        refine gw_aast M hK hI 4 0 rfl rfl hAk hat9 (hEk (hC.pmb (j := k - 1) (by omega))) (fun x hx => by obtain ⟨u3, u5, u6, u9, v1, v2, q9⟩ := hx; exact ⟨_, q9⟩) (nb_in hk (by omega)) (kR D 4 16 (fun j b => b = A 12 (pm (sg (k - 1) cnt j)))) ⟨_, arr_up hf9 (show y11.toNatClampNeg = k by rw [hk]; exact nI_clamp (by omega)) (p := fun j => pm (sg k cnt j)) (p' := fun j => pm (sg (k - 1) cnt j)) (fun j _ h9 => congrArg pm (sg_s h9)) (congrArg pm (sg_k hkk.2 (by omega))), rfl⟩ d_Gp_add_90 (fun H locs hI => ?_)
        obtain ⟨G12, hGz⟩ : ∃ z, z = gw_up G (A 1 0) (kR D 4 16 (fun j b => b = A 12 (pm (sg (k - 1) cnt j)))) := ⟨_, rfl⟩
        have hI : gw_I D Hs G12 s.heap H locs := by rw [hGz]; rw [hGe, gw_up_up] at hI; exact hI
        obtain ⟨x13, e_x13⟩ : ∃ ww9 : Int32, ww9 = y11 + (-1) := ⟨_, rfl⟩
        refine lv_iinc (v := x13) (lv' := [(11, .int x13), (10, .ref (A 12 (pm cnt))), (9, .int (nI kp)), (0, .ref (A 0 0)), (1, .int n1), (2, .long kh), (4, .long kl), (6, .int n6), (7, .int n7), (8, .int n8)]) hx hb d_Gp_add_91 hl (k := 0) rfl (by rw [e_x13]; rfl) (by decide) rfl (fun ls hl => ?_)
        have hkz : x13 = nI (k - 1) := by rw [e_x13, ← hk1]; exact (Int32.sub_eq_add_neg y11 1).symm
        refine lv_goto (tgt := 68) hx hb d_Gp_add_94 (by decide) ?_
        exact ih_68 (k - 1) x13 G12 _ _ _ (⟨by omega, by omega⟩) hkz hGz (by have hm_68 := hm_68; omega) hI (lv_sub hl [0, 1, 2, 3, 4, 5, 6, 7, 8, 9] rfl)
  exact L_68 _ cnt (nI cnt) G _ _ _ (⟨hkc, Nat.le_refl _⟩) rfl (by simp only [sg_z]; exact (gw_up_id hC.arr).symm) (Nat.lt_succ_self _) hI (lv_sub hl [0, 1, 2, 3, 4, 5, 6, 7, 8, 9] rfl)

abbrev rm_Gp_dropf : Room := { frames := 1, cells := 0, slots := 0, locals := 22 }
set_option maxHeartbeats 4000000 in
set_option maxRecDepth 100000 in
theorem c_Gp_dropf (l : Launch) {D : gw_D} {Hs : Heap} {G : gw_G} (A : Nat → Nat → Nat) (pm : Nat → Nat) (cnt fd : Nat) (tt xt li : Nat → Int32) (la : Nat → Int64) (hC : cls D G A pm cnt fd tt xt li la) (n1 : Int32) (kp : Nat) (hkp : isPl (fun j => tt (pm j)) cnt n1 kp) (hat : ¬ (kp < cnt ∧ tt (pm kp) = n1))  : Met l y_Gp_drop (Cond.code y_Gp_drop b_Gp_drop 5 (some .boolean) :: tb) rm_Gp_dropf (gw_Pc D Hs G [.ref (A 0 0), .int n1]) (gw_Qi D Hs (fun r G1 => r = 0 ∧ G1 = G)) 0 0 (gw_A Hs) := by
  refine gw_met (by decide) (Nat.le_of_ble_eq_true rfl) ?_
  intro p e s m args below meth c M hK hr hlo hin hI ls hl
  have hx := M.1
  have hb := M.2.1
  have hl : lv_has ls 5 [(0, .ref (A 0 0)), (1, .int n1)] := hl
  refine lv_aload_n hx hb d_Gp_drop_0 rfl (lv_at hl 0 rfl) ?_
  refine lv_iload_n hx hb d_Gp_drop_1 rfl (lv_at hl 1 rfl) ?_
  refine gp_V (As := [.int n1]) (rest := []) M hK hI (c_Gp_placeOf l A pm cnt fd tt xt li la hC n1 kp hkp) k_Gp_placeOf m_Gp_56 hC.O (ci := 5) rfl (fun x hx => ⟨_, hx⟩) rfl hl.1 rfl (Nat.le_of_ble_eq_true rfl) ⟨rfl, rfl, ⟨Nat.le_of_ble_eq_true rfl, Nat.le_of_ble_eq_true rfl⟩, ⟨Nat.le_of_ble_eq_true rfl, Nat.le_of_ble_eq_true rfl⟩⟩ d_Gp_drop_2 (fun x1 h_x1 => ?_)
  subst h_x1
  refine lv_istore_n (lv' := [(2, .int (nI kp)), (0, .ref (A 0 0)), (1, .int n1)]) hx hb d_Gp_drop_5 rfl hl (by decide) rfl (fun ls hl => ?_)
  refine lv_aload_n hx hb d_Gp_drop_6 rfl (lv_at hl 1 rfl) ?_
  refine lv_iload_n hx hb d_Gp_drop_7 rfl (lv_at hl 0 rfl) ?_
  refine lv_iload_n hx hb d_Gp_drop_8 rfl (lv_at hl 2 rfl) ?_
  refine gp_V (As := [.int (nI kp), .int n1]) (rest := []) M hK hI (c_Gp_isAt l A pm cnt fd tt xt li la hC kp (Nat.le_trans hkp.1 hC.c16) n1) k_Gp_isAt m_Gp_60 hC.O (ci := 5) rfl (fun x hx => ⟨_, hx⟩) rfl hl.1 rfl (Nat.le_of_ble_eq_true rfl) ⟨rfl, rfl, ⟨Nat.le_of_ble_eq_true rfl, Nat.le_of_ble_eq_true rfl⟩, ⟨Nat.le_of_ble_eq_true rfl, Nat.le_of_ble_eq_true rfl⟩⟩ d_Gp_drop_9 (fun x2 h_x2 => ?_)
  have h_x2 := h_x2.2 hat
  subst h_x2
  refine lv_if_ne (tgt := 17) hx hb d_Gp_drop_12 (by decide) (fun q9 => absurd (by decide) q9) (fun c_12 => ?_)
  refine lv_iconst (v := 0) hx hb d_Gp_drop_15 (by decide) ?_
  exact gw_zret M hr rfl hlo hI d_Gp_drop_16 (⟨rfl, rfl⟩)

abbrev rm_Gp_drop : Room := { frames := 1, cells := 0, slots := 0, locals := 22 }
set_option maxHeartbeats 4000000 in
set_option maxRecDepth 100000 in
theorem c_Gp_drop (l : Launch) {D : gw_D} {Hs : Heap} {G : gw_G} (A : Nat → Nat → Nat) (pm : Nat → Nat) (cnt fd : Nat) (tt xt li : Nat → Int32) (la : Nat → Int64) (hC : cls D G A pm cnt fd tt xt li la) (n1 : Int32) (kp : Nat) (hkp : isPl (fun j => tt (pm j)) cnt n1 kp) (hat : kp < cnt ∧ tt (pm kp) = n1)  : Met l y_Gp_drop (Cond.code y_Gp_drop b_Gp_drop 5 (some .boolean) :: tb) rm_Gp_drop (gw_Pc D Hs G [.ref (A 0 0), .int n1]) (gw_Qi D Hs (fun r G1 => r = 1 ∧ cls D G1 A (fun j => pm (sf kp cnt j)) (cnt - 1) fd tt xt li la ∧ gw_fr (own A) G G1)) 0 0 (gw_A Hs) := by
  refine gw_met (by decide) (Nat.le_of_ble_eq_true rfl) ?_
  intro p e s m args below meth c M hK hr hlo hin hI ls hl
  have hx := M.1
  have hb := M.2.1
  have hl : lv_has ls 5 [(0, .ref (A 0 0)), (1, .int n1)] := hl
  have hkc := hat.1
  have hc16 := hC.c16
  have hi : pm kp < 16 := hC.pmb (Nat.lt_of_lt_of_le hkc hc16)
  have hI0 := hI
  refine lv_aload_n hx hb d_Gp_drop_0 rfl (lv_at hl 0 rfl) ?_
  refine lv_iload_n hx hb d_Gp_drop_1 rfl (lv_at hl 1 rfl) ?_
  refine gp_V (As := [.int n1]) (rest := []) M hK hI (c_Gp_placeOf l A pm cnt fd tt xt li la hC n1 kp hkp) k_Gp_placeOf m_Gp_56 hC.O (ci := 5) rfl (fun x hx => ⟨_, hx⟩) rfl hl.1 rfl (Nat.le_of_ble_eq_true rfl) ⟨rfl, rfl, ⟨Nat.le_of_ble_eq_true rfl, Nat.le_of_ble_eq_true rfl⟩, ⟨Nat.le_of_ble_eq_true rfl, Nat.le_of_ble_eq_true rfl⟩⟩ d_Gp_drop_2 (fun x1 h_x1 => ?_)
  subst h_x1
  refine lv_istore_n (lv' := [(2, .int (nI kp)), (0, .ref (A 0 0)), (1, .int n1)]) hx hb d_Gp_drop_5 rfl hl (by decide) rfl (fun ls hl => ?_)
  refine lv_aload_n hx hb d_Gp_drop_6 rfl (lv_at hl 1 rfl) ?_
  refine lv_iload_n hx hb d_Gp_drop_7 rfl (lv_at hl 0 rfl) ?_
  refine lv_iload_n hx hb d_Gp_drop_8 rfl (lv_at hl 2 rfl) ?_
  refine gp_V (As := [.int (nI kp), .int n1]) (rest := []) M hK hI (c_Gp_isAt l A pm cnt fd tt xt li la hC kp (Nat.le_trans hkp.1 hC.c16) n1) k_Gp_isAt m_Gp_60 hC.O (ci := 5) rfl (fun x hx => ⟨_, hx⟩) rfl hl.1 rfl (Nat.le_of_ble_eq_true rfl) ⟨rfl, rfl, ⟨Nat.le_of_ble_eq_true rfl, Nat.le_of_ble_eq_true rfl⟩, ⟨Nat.le_of_ble_eq_true rfl, Nat.le_of_ble_eq_true rfl⟩⟩ d_Gp_drop_9 (fun x2 h_x2 => ?_)
  have h_x2 := h_x2.1 hat
  subst h_x2
  refine lv_if_ne (tgt := 17) hx hb d_Gp_drop_12 (by decide) (fun c_12 => ?_) (fun q9 => absurd q9 (by decide))
  refine lv_aload_n hx hb d_Gp_drop_17 rfl (lv_at hl 1 rfl) ?_
  refine gw_get M hK hI hC.O i_Gp rfl 0 (by decide) f_Gp_11 rfl (Pv := fun v => v = .ref (A 1 0)) (fun x hx => ⟨_, _, hx, rfl, rfl⟩) d_Gp_drop_18 (fun v hv => ?_)
  subst hv
  refine lv_iload_n hx hb d_Gp_drop_21 rfl (lv_at hl 0 rfl) ?_
  refine gw_aald M hK hI 4 rfl hC.arr (vp_in_nI (Nat.lt_of_lt_of_le hkc hc16) (by decide)) d_Gp_drop_22 (fun r3 h_r3 => ?_)
  rw [nI_clamp (by omega)] at h_r3
  subst h_r3
  refine lv_astore_n (lv' := [(3, .ref (A 12 (pm kp))), (2, .int (nI kp)), (0, .ref (A 0 0)), (1, .int n1)]) hx hb d_Gp_drop_23 rfl hl (by decide) rfl (fun ls hl => ?_)
  refine lv_aload_n hx hb d_Gp_drop_24 rfl (lv_at hl 2 rfl) ?_
  refine lv_dup hx hb d_Gp_drop_25 rfl ?_
  refine gw_get M hK hI hC.O i_Gp rfl 1 (by decide) f_Gp_15 rfl (Pv := fun v => v = .int (nI cnt)) (fun x hx => ⟨_, _, hx, rfl, rfl⟩) d_Gp_drop_26 (fun v hv => ?_)
  subst hv
  refine lv_iconst (v := 1) hx hb d_Gp_drop_29 (by decide) ?_
  refine lv_isub hx hb d_Gp_drop_30 ?_
  refine lv_topi (fun x4 e_x4 => ?_)
  refine gw_put M hK hI hC.O i_Gp t_Gp tk_Gp n_Gp rfl 1 (by decide) f_Gp_15 rfl rfl rfl (kx (.inr (5, [.ref (A 1 0), .int x4, .ref (A 2 0), .ref (A 3 0), .ref (A 4 0), .ref (A 5 0), .ref (A 6 0), .ref (A 7 0)]))) (fun x hx => ⟨_, hx, Nat.le_of_ble_eq_true rfl, rfl⟩) d_Gp_drop_31 (fun H locs hI => ?_)
  obtain ⟨G5, hE_G5⟩ : ∃ z9, gw_up G (A 0 0) (kx (.inr (5, [.ref (A 1 0), .int x4, .ref (A 2 0), .ref (A 3 0), .ref (A 4 0), .ref (A 5 0), .ref (A 6 0), .ref (A 7 0)]))) = z9 := ⟨_, rfl⟩
  rw [hE_G5] at hI
  have hG7 : G5 (A 0 0) = some (kx (.inr (5, [.ref (A 1 0), .int x4, .ref (A 2 0), .ref (A 3 0), .ref (A 4 0), .ref (A 5 0), .ref (A 6 0), .ref (A 7 0)]))) := by rw [← hE_G5]; exact gw_up_s
  have hs6 : gw_fr (fun b => b = (A 0 0)) G G5 := by rw [← hE_G5]; exact gw_fr.up rfl
  refine lv_iload_n hx hb d_Gp_drop_34 rfl (lv_at hl 1 rfl) ?_
  refine lv_istore (lv' := [(4, .int (nI kp)), (3, .ref (A 12 (pm kp))), (2, .int (nI kp)), (0, .ref (A 0 0)), (1, .int n1)]) hx hb d_Gp_drop_35 hl (by decide) rfl (fun ls hl => ?_)
  have L_37 : ∀ (n9 : Nat) (k : Nat) (y4 : Int32) (Gk : gw_G) (H : Heap) (locs : List Loc) (ls : Array Slot), kp ≤ k ∧ k ≤ cnt - 1 → y4 = nI k → Gk = gw_up (gw_up G (A 0 0) (kGp A (cnt - 1))) (A 1 0) (kR D 4 16 (fun j b => b = A 12 (pm (sd kp k j)))) → cnt - k < n9 → gw_I D Hs Gk s.heap H locs → lv_has ls 5 [(4, .int y4), (3, .ref (A 12 (pm kp))), (2, .int (nI kp)), (0, .ref (A 0 0)), (1, .int n1)] → W p l e rm_Gp_drop s m args below meth c H locs 0 0 (MQ below (gw_Qi D Hs (fun r G1 => r = 1 ∧ cls D G1 A (fun j => pm (sf kp cnt j)) (cnt - 1) fd tt xt li la ∧ gw_fr (own A) G G1)) args s 0 0 (gw_A Hs)) (F0 m 37 ls []) := by
    intro n9
    induction n9 with
    | zero =>
      intro k y4 Gk H locs ls hkk hk hGe hm hI hl
      exact absurd hm (Nat.not_lt_zero _)
    | succ n9 ih_37 =>
      intro k y4 Gk H locs ls hkk hk hGe hm_37 hI hl
      have hAk : Gk (A 1 0) = some (kR D 4 16 (fun j b => b = A 12 (pm (sd kp k j)))) := by rw [hGe]; exact gw_up_s
      have hOk : Gk (A 0 0) = some (kGp A (cnt - 1)) := by rw [hGe, gw_up_n (gw_nec hI0 hC.O hC.arr gt_Gp gt_R (by decide))]; exact gw_up_s
      have hEk : ∀ {i : Nat}, i < 16 → Gk (A 12 i) = some (kAp (A 13 i) (A 15 i) (tt i) (xt i) (la i) (li i)) := fun h9 => by rw [hGe, gw_up_n (gw_nec hI0 (hC.as h9) hC.arr gt_Ap gt_R (by decide)), gw_up_n (gw_nec hI0 (hC.as h9) hC.O gt_Ap gt_Gp (by decide))]; exact hC.as h9
      refine lv_iload hx hb d_Gp_drop_37 (lv_at hl 0 rfl) ?_
      refine lv_aload_n hx hb d_Gp_drop_39 rfl (lv_at hl 3 rfl) ?_
      refine gw_get M hK hI hOk i_Gp rfl 1 (by decide) f_Gp_15 rfl (Pv := fun v => v = .int (nI (cnt - 1))) (fun x hx => ⟨_, _, hx, rfl, rfl⟩) d_Gp_drop_40 (fun v hv => ?_)
      subst hv
      refine lv_icmp_ge (tgt := 68) hx hb d_Gp_drop_43 (by decide) (fun c_43 => ?_) (fun c_43 => ?_)
      · have hke : k = cnt - 1 := Nat.le_antisymm hkk.2 (nb_ge hk c_43 (by omega) (by omega))
        subst hke
        refine lv_aload_n hx hb d_Gp_drop_68 rfl (lv_at hl 3 rfl) ?_
        refine gw_get M hK hI hOk i_Gp rfl 0 (by decide) f_Gp_11 rfl (Pv := fun v => v = .ref (A 1 0)) (fun x hx => ⟨_, _, hx, rfl, rfl⟩) d_Gp_drop_69 (fun v hv => ?_)
        subst hv
        refine lv_aload_n hx hb d_Gp_drop_72 rfl (lv_at hl 3 rfl) ?_
        refine gw_get M hK hI hOk i_Gp rfl 1 (by decide) f_Gp_15 rfl (Pv := fun v => v = .int (nI (cnt - 1))) (fun x hx => ⟨_, _, hx, rfl, rfl⟩) d_Gp_drop_73 (fun v hv => ?_)
        subst hv
        refine lv_aload_n hx hb d_Gp_drop_76 rfl (lv_at hl 1 rfl) ?_
        obtain ⟨-, x9, ⟨f9, hf9, rfl⟩, hat9⟩ := hI.1.2.2 (A 1 0) _ hAk
        refine gw_aast M hK hI 4 0 rfl rfl hAk hat9 (hEk hi) (fun x hx => by obtain ⟨u3, u5, u6, u9, v1, v2, q9⟩ := hx; exact ⟨_, q9⟩) (vp_in_nI (by omega) (by decide)) (kR D 4 16 (fun j b => b = A 12 (pm (sf kp cnt j)))) ⟨_, arr_up hf9 (nI_clamp (by omega)) (p := fun j => pm (sd kp (cnt - 1) j)) (p' := fun j => pm (sf kp cnt j)) (fun j _ h9 => congrArg pm (sf_s hkc h9)) (congrArg pm (sf_k hkc)), rfl⟩ d_Gp_drop_77 (fun H locs hI => ?_)
        obtain ⟨G8, hGz⟩ : ∃ z, z = gw_up (gw_up G (A 1 0) (kR D 4 16 (fun j b => b = A 12 (pm (sf kp cnt j))))) (A 0 0) (kGp A (cnt - 1)) := ⟨_, rfl⟩
        have hI : gw_I D Hs G8 s.heap H locs := by rw [hGz, gw_up_c (gw_nec hI0 hC.arr hC.O gt_R gt_Gp (by decide))]; rw [hGe, gw_up_up] at hI; exact hI
        have hC3 : cls D G8 A (fun j => pm (sf kp cnt j)) (cnt - 1) fd tt xt li la := by
          rw [hGz]; exact hC.arrup hI0 (p1 := fun j => pm (sf kp cnt j)) (n := cnt - 1) (by omega) (fun j hj => hC.pmb (sf_lt hkc hc16 hj)) (fun i j hi hj e => sf_inj hkc (hC.p.2.2.2.1 _ _ (sf_lt hkc hc16 hi) (sf_lt hkc hc16 hj) e))
        have hfr3 : gw_fr (own A) G G8 := by rw [hGz]; exact gw_fr.tr (gw_fr.up (Or.inr (Or.inl rfl))) (gw_fr.up (Or.inl rfl))
        refine lv_iconst (v := 1) hx hb d_Gp_drop_78 (by decide) ?_
        exact gw_zret M hr rfl hlo hI d_Gp_drop_79 (⟨rfl, hC3, hfr3⟩)
      · have hlt : k < cnt - 1 := nb_lt hk c_43 (by omega) (by omega)
        have hk1 : y4 + 1 = nI (k + 1) := nb_add hk 1
        refine lv_aload_n hx hb d_Gp_drop_46 rfl (lv_at hl 3 rfl) ?_
        refine gw_get M hK hI hOk i_Gp rfl 0 (by decide) f_Gp_11 rfl (Pv := fun v => v = .ref (A 1 0)) (fun x hx => ⟨_, _, hx, rfl, rfl⟩) d_Gp_drop_47 (fun v hv => ?_)
        subst hv
        refine lv_iload hx hb d_Gp_drop_50 (lv_at hl 0 rfl) ?_
        refine lv_aload_n hx hb d_Gp_drop_52 rfl (lv_at hl 3 rfl) ?_
        refine gw_get M hK hI hOk i_Gp rfl 0 (by decide) f_Gp_11 rfl (Pv := fun v => v = .ref (A 1 0)) (fun x hx => ⟨_, _, hx, rfl, rfl⟩) d_Gp_drop_53 (fun v hv => ?_)
        subst hv
        refine lv_iload hx hb d_Gp_drop_56 (lv_at hl 0 rfl) ?_
        refine lv_iconst (v := 1) hx hb d_Gp_drop_58 (by decide) ?_
        refine lv_iadd hx hb d_Gp_drop_59 ?_
        refine gw_aald M hK hI 4 rfl hAk (nb_in hk1 (by omega)) d_Gp_drop_60 (fun r9 h_r9 => ?_)
        have hc9 : (y4 + 1).toNatClampNeg = k + 1 := by rw [hk1]; exact nI_clamp (by omega)
        have hs9 : sd kp k (k + 1) = k + 1 := by unfold sd; split <;> omega
        simp only [hc9, hs9] at h_r9
        subst h_r9
        obtain ⟨-, x9, ⟨f9, hf9, rfl⟩, hat9⟩ := hI.1.2.2 (A 1 0) _ hAk
        refine gw_aast M hK hI 4 0 rfl rfl hAk hat9 (hEk (hC.pmb (j := k + 1) (by omega))) (fun x hx => by obtain ⟨u3, u5, u6, u9, v1, v2, q9⟩ := hx; exact ⟨_, q9⟩) (nb_in hk (by omega)) (kR D 4 16 (fun j b => b = A 12 (pm (sd kp (k + 1) j)))) ⟨_, arr_up hf9 (show y4.toNatClampNeg = k by rw [hk]; exact nI_clamp (by omega)) (p := fun j => pm (sd kp k j)) (p' := fun j => pm (sd kp (k + 1) j)) (fun j _ h9 => congrArg pm (sd_s h9)) (congrArg pm (sd_k hkk.1)), rfl⟩ d_Gp_drop_61 (fun H locs hI => ?_)
        obtain ⟨G10, hGz⟩ : ∃ z, z = gw_up (gw_up G (A 0 0) (kGp A (cnt - 1))) (A 1 0) (kR D 4 16 (fun j b => b = A 12 (pm (sd kp (k + 1) j)))) := ⟨_, rfl⟩
        have hI : gw_I D Hs G10 s.heap H locs := by rw [hGz]; rw [hGe, gw_up_up] at hI; exact hI
        obtain ⟨x11, e_x11⟩ : ∃ ww9 : Int32, ww9 = y4 + 1 := ⟨_, rfl⟩
        refine lv_iinc (v := x11) (lv' := [(4, .int x11), (3, .ref (A 12 (pm kp))), (2, .int (nI kp)), (0, .ref (A 0 0)), (1, .int n1)]) hx hb d_Gp_drop_62 hl (k := 0) rfl (by rw [e_x11]; rfl) (by decide) rfl (fun ls hl => ?_)
        refine lv_goto (tgt := 37) hx hb d_Gp_drop_65 (by decide) ?_
        exact ih_37 (k + 1) x11 G10 _ _ _ (⟨by omega, by omega⟩) (nb_s e_x11 hk) hGz (by have hm_37 := hm_37; omega) hI (lv_sub hl [0, 1, 2, 3, 4] rfl)
  exact L_37 _ kp (nI kp) G5 _ _ _ (⟨Nat.le_refl _, Nat.le_sub_one_of_lt hkc⟩) rfl (by rw [← hE_G5, e_x4, show nI cnt - 1 = nI (cnt - 1) from nb_sub rfl 1 (by omega)]; simp only [sd_z]; exact (gw_up_id (G := gw_up G (A 0 0) (kGp A (cnt - 1))) (a := A 1 0) (by rw [gw_up_n (gw_nec hI0 hC.arr hC.O gt_R gt_Gp (by decide))]; exact hC.arr)).symm) (Nat.lt_succ_self _) hI (lv_sub hl [0, 1, 2, 3, 4] rfl)
