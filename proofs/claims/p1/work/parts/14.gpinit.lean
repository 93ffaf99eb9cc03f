theorem z_31 {k n : Nat} (h : k ≤ n) (hn : n < 2 ^ 31 := by decide) : k < 2 ^ 31 := Nat.lt_of_le_of_lt h hn
theorem z_31b {k n : Nat} (h : k < n) (hn : n < 2 ^ 31 := by decide) : k < 2 ^ 31 := Nat.lt_trans h hn
theorem z_m {k n m : Nat} (hm : n - k < m + 1) (h : k < n) : n - (k + 1) < m := by omega
theorem z_j {j k : Nat} (h : j < k + 1) (h9 : ¬ j = k) : j < k := by omega
theorem z_w (c d k a b : Nat) (h : a + b ≤ d) : c + d * k + a + b ≤ c + d * (k + 1) := by rw [Nat.mul_succ]; omega
theorem z_c1 {k : Nat} (h : k < 16) : 11 + 5 * k + 1 ≤ 107 := by omega
theorem z_c1b {k : Nat} (h : k < 16) : 11 + 5 * k + 1 + 4 ≤ 107 := by omega
theorem z_s1 {k : Nat} (h : k < 16) : 4038 + 94 * k + 12 ≤ 13566 := by omega
theorem z_s1b {k : Nat} (h : k < 16) : 4038 + 94 * k + 12 + 82 ≤ 13566 := by omega
theorem z_c2 {k : Nat} (h : k < 8) : 91 + 2 * k + 1 ≤ 107 := by omega
theorem z_c2b {k : Nat} (h : k < 8) : 91 + 2 * k + 1 + 1 ≤ 107 := by omega
theorem z_s2 {k : Nat} (h : k < 8) : 5542 + 1003 * k + 3 ≤ 13566 := by omega
theorem z_s2b {k : Nat} (h : k < 8) : 5542 + 1003 * k + 3 + 1000 ≤ 13566 := by omega
/-- a row of room n, as it is made: no bytes -/
def isRo (D : gw_D) (G : gw_G) (n b : Nat) : Prop := ∃ q, G b = some (kx (.inr (3, [.ref q, .int 0, .int 0]))) ∧ G q = some (kA D 1 n tT)
theorem isRo.mono {D : gw_D} {G G1 : gw_G} {r b arr : Nat} {t n k : Nat} {as : Nat → Nat} (h : isRo D G r b) (hf : gw_fr (fun q => q = arr) G G1) (ha : G arr = some (kRk D t n k as)) : isRo D G1 r b := by
  obtain ⟨q, h1, h2⟩ := h
  refine ⟨q, hf _ _ h1 ?_, hf _ _ h2 ?_⟩
  · exact ne_x h1 ha (fun q => by obtain ⟨f, -, q⟩ := q; cases q)
  · exact gw_ne (x := .inl (D.2 1, r, .inl (fun _ => 0))) h2 ha ⟨_, fun _ _ => trivial, rfl⟩ (fun q => by obtain ⟨f, -, q⟩ := q; have h9 := congrArg (fun z => z.2.2) (Sum.inl.inj q); cases h9)
theorem isAs.x {D : gw_D} {G G1 : gw_G} {b arr : Nat} {t n : Nat} {P : Nat → Nat → Prop} (h : isAs D G b) (hf : gw_fr (fun q => q = arr) G G1) (ha : G arr = some (kR D t n P)) : isAs D G1 b := by
  obtain ⟨ci, wo, wi, bi, h1, h2, h3, h4, h5⟩ := h
  refine ⟨ci, wo, wi, bi, hf _ _ h1 ?_, hf _ _ h2 ?_, hf _ _ h3 ?_, hf _ _ h4 ?_, hf _ _ h5 ?_⟩
  · exact gw_ne (x := .inr (0, [.ref ci, .ref wi, .int 0, .int 0, .int 0, .long 0, .long 0, .long 0, .int 0, .long 0, .long 0, .long 0])) h1 ha ⟨0, 0, 0, 0, 0, 0, 0, 0, 0, 0, Or.inl rfl, rfl⟩ (fun q => by obtain ⟨f, -, q⟩ := q; cases q)
  · exact gw_ne (x := .inr (2, [.ref wo, .long 0, .long 0])) h2 ha ⟨0, 0, rfl⟩ (fun q => by obtain ⟨f, -, q⟩ := q; cases q)
  · exact gw_ne (x := .inl (D.2 0, 44, .inl (fun _ => 0))) h3 ha ⟨_, fun _ _ => trivial, rfl⟩ (fun q => by obtain ⟨f, -, q⟩ := q; have h9 := congrArg (fun z => z.2.2) (Sum.inl.inj q); cases h9)
  · exact gw_ne (x := .inr (4, [.ref bi, .int 0, .long 0])) h4 ha ⟨0, 0, rfl⟩ (fun q => by obtain ⟨f, -, q⟩ := q; cases q)
  · exact gw_ne (x := .inl (D.2 0, 32, .inl (fun _ => 0))) h5 ha ⟨_, fun _ _ => trivial, rfl⟩ (fun q => by obtain ⟨f, -, q⟩ := q; have h9 := congrArg (fun z => z.2.2) (Sum.inl.inj q); cases h9)
/-- the whole object, as it is made -/
def gp_new (D : gw_D) (o : Nat) (G : gw_G) : Prop := ∃ (arr fed sent places plain gained check : Nat) (as ro : Nat → Nat), G o = some (kx (.inr (5, [.ref arr, .int 0, .ref fed, .ref sent, .ref places, .ref plain, .ref gained, .ref check]))) ∧ G arr = some (kR D 4 16 (fun j b => b = as j)) ∧ G places = some (kR D 5 8 (fun j b => b = ro j)) ∧ isRo D G 200 fed ∧ isRo D G 236 sent ∧ isRo D G 204 gained ∧ (∀ j, j < 16 → isAs D G (as j)) ∧ (∀ j, j < 8 → isRo D G 236 (ro j)) ∧ ∀ j, j < 8 → sent ≠ ro j

abbrev rm_Gp_init : Room := { frames := 3, cells := 107, slots := 13566, locals := 60 }
set_option maxHeartbeats 1000000 in
set_option maxRecDepth 100000 in
theorem c_Gp_init (l : Launch) {D : gw_D} {Hs : Heap} {G : gw_G} (a : Nat) (hR : G a = some (kx (.inr (5, [.null, .int 0, .null, .null, .null, .null, .null, .null])))) : Met l y_Gp_init (Cond.code y_Gp_init b_Gp_init 2 none :: tb) rm_Gp_init (gw_Pc D Hs G [.ref a]) (gw_Qv D Hs (fun G1 => gp_new D a G1 ∧ gw_fr (fun b => b = a) G G1)) 107 13566 (gw_A Hs) := by
  refine gw_met (by decide) (Nat.le_of_ble_eq_true rfl) ?_
  intro p e s m args below meth c M hK hr hlo hin hI ls hl
  have hx := M.1
  have hb := M.2.1
  have hl : lv_has ls 2 [(0, .ref a)] := hl
  have hf0 : gw_fr (fun b => b = a) G G := gw_fr.rf
  refine lv_aload_n hx hb d_Gp_init_0 rfl (lv_at hl 0 rfl) ?_
  refine W.objInit hx hb M.2.2.2.1 (M.2.2.2.2 _ m_Gp_1) (M.2.2.2.2 _ oi_1) (M.2.2.2.2 _ oi_2) rfl (by rw [M.2.2.1]; exact hl.1) rfl d_Gp_init_1 (Nat.le_of_ble_eq_true rfl) (Nat.le_of_ble_eq_true rfl) ?_
  refine W.eq (g2 := F0 m 4 ls []) rfl ?_
  refine lv_aload_n hx hb d_Gp_init_4 rfl (lv_at hl 0 rfl) ?_
  refine lv_bipush (v := 16) hx hb d_Gp_init_5 (by decide) ?_
  refine gw_newq M hK hI q_Gp_9 hK.2.1 4 rfl (N' := 16) (by decide) rfl (Nat.le_of_ble_eq_true rfl) (Nat.le_of_ble_eq_true rfl) (Nat.le_of_ble_eq_true rfl) (kRk D 4 16 0 (fun _ => 0)) (⟨_, fun _ h => absurd h (Nat.not_lt_zero _), rfl⟩) d_Gp_init_7 (fun q1 H hz2 hI => ?_)
  generalize hE_G3 : gw_up G q1 (kRk D 4 16 0 (fun _ => 0)) = G3 at hI
  have hG4 : G3 q1 = some (kRk D 4 16 0 (fun _ => 0)) := by rw [← hE_G3]; exact gw_up_s
  have hn6 : a ≠ q1 := fun q9 => by have h9 := hR; rw [q9, hz2] at h9; cases h9
  have hG5 : G3 a = some (kx (.inr (5, [.null, .int 0, .null, .null, .null, .null, .null, .null]))) := by rw [← hE_G3, gw_up_n hn6]; exact hR
  have hy7 : G q1 = none := by
    cases h9 : G q1 with
    | none => rfl
    | some K9 => exact absurd (hf0 q1 K9 h9 (fun e9 => hn6 e9.symm)) (by rw [hz2]; exact fun h => by cases h)
  have hf8 : gw_fr (fun b => b = a) G G3 := gw_fr.tr hf0 (by rw [← hE_G3]; exact gw_fr.new hz2)
  refine gw_putF M hK hI hG5 i_Gp t_Gp tk_Gp n_Gp rfl 0 (by decide) f_Gp_11 rfl hin rfl rfl (kx (.inr (5, [.ref q1, .int 0, .null, .null, .null, .null, .null, .null]))) (fun x hx => ⟨_, hx, Nat.le_of_ble_eq_true rfl, rfl⟩) d_Gp_init_10 (fun H locs hI => ?_)
  generalize hE_G9 : gw_up G3 a (kx (.inr (5, [.ref q1, .int 0, .null, .null, .null, .null, .null, .null]))) = G9 at hI
  have hG10 : G9 a = some (kx (.inr (5, [.ref q1, .int 0, .null, .null, .null, .null, .null, .null]))) := by rw [← hE_G9]; exact gw_up_s
  have hG11 : G9 q1 = some (kRk D 4 16 0 (fun _ => 0)) := by rw [← hE_G9, gw_up_n hn6.symm]; exact hG4
  have hf12 : gw_fr (fun b => b = a) G G9 := gw_fr.tr hf8 (by rw [← hE_G9]; exact gw_fr.up rfl)
  refine lv_aload_n hx hb d_Gp_init_13 rfl (lv_at hl 0 rfl) ?_
  refine lv_iconst (v := 0) hx hb d_Gp_init_14 (by decide) ?_
  refine gw_put M hK hI hG10 i_Gp t_Gp tk_Gp n_Gp rfl 1 (by decide) f_Gp_15 rfl rfl rfl (kx (.inr (5, [.ref q1, .int 0, .null, .null, .null, .null, .null, .null]))) (fun x hx => ⟨_, hx, Nat.le_of_ble_eq_true rfl, rfl⟩) d_Gp_init_15 (fun H locs hI => ?_)
  generalize hE_G13 : gw_up G9 a (kx (.inr (5, [.ref q1, .int 0, .null, .null, .null, .null, .null, .null]))) = G13 at hI
  have hG14 : G13 a = some (kx (.inr (5, [.ref q1, .int 0, .null, .null, .null, .null, .null, .null]))) := by rw [← hE_G13]; exact gw_up_s
  have hG15 : G13 q1 = some (kRk D 4 16 0 (fun _ => 0)) := by rw [← hE_G13, gw_up_n hn6.symm]; exact hG11
  have hf16 : gw_fr (fun b => b = a) G G13 := gw_fr.tr hf12 (by rw [← hE_G13]; exact gw_fr.up rfl)
  refine lv_aload_n hx hb d_Gp_init_18 rfl (lv_at hl 0 rfl) ?_
  refine gw_new M hK hI (ci := 3) (fs := [.null, .int 0, .int 0]) i_Ro t_Ro tk_Ro q_Gp_19 j_Ro z_Ro rfl (fun j hj => by rcases (show j = 0 ∨ j = 1 ∨ j = 2 by omega) with rfl | rfl | rfl <;> rfl) (Nat.le_of_ble_eq_true rfl) (Nat.le_of_ble_eq_true rfl) d_Gp_init_19 (fun q17 H hz18 hI => ?_)
  generalize hE_G19 : gw_up G13 q17 (kx (.inr (3, [.null, .int 0, .int 0]))) = G19 at hI
  have hG20 : G19 q17 = some (kx (.inr (3, [.null, .int 0, .int 0]))) := by rw [← hE_G19]; exact gw_up_s
  have hn22 : a ≠ q17 := fun q9 => by have h9 := hG14; rw [q9, hz18] at h9; cases h9
  have hG21 : G19 a = some (kx (.inr (5, [.ref q1, .int 0, .null, .null, .null, .null, .null, .null]))) := by rw [← hE_G19, gw_up_n hn22]; exact hG14
  have hn24 : q1 ≠ q17 := fun q9 => by have h9 := hG15; rw [q9, hz18] at h9; cases h9
  have hG23 : G19 q1 = some (kRk D 4 16 0 (fun _ => 0)) := by rw [← hE_G19, gw_up_n hn24]; exact hG15
  have hy25 : G q17 = none := by
    cases h9 : G q17 with
    | none => rfl
    | some K9 => exact absurd (hf16 q17 K9 h9 (fun e9 => hn22 e9.symm)) (by rw [hz18]; exact fun h => by cases h)
  have hf26 : gw_fr (fun b => b = a) G G19 := gw_fr.tr hf16 (by rw [← hE_G19]; exact gw_fr.new hz18)
  refine lv_dup hx hb d_Gp_init_22 rfl ?_
  refine lv_sipush (v := 200) hx hb d_Gp_init_23 (by decide) ?_
  refine gw_Iv (As := [.int 200]) (rest := [.ref q17, .ref a]) M hK hI (c_Ro_init l q17 200 (by decide) hG20) k_Ro_init m_Gp_21 rfl hl.1 rfl (Nat.le_of_ble_eq_true rfl) ⟨rfl, rfl, ⟨Nat.le_of_ble_eq_true rfl, Nat.le_of_ble_eq_true rfl⟩, ⟨Nat.le_of_ble_eq_true rfl, Nat.le_of_ble_eq_true rfl⟩⟩ d_Gp_init_26 (fun G32 H locs hw hI => ?_)
  obtain ⟨q27, hz28, hG29, hG30, hfc31⟩ := hw
  have hn33 : a ≠ q27 := fun q9 => by have h9 := hG21; rw [q9, hz28] at h9; cases h9
  have hn34 : q1 ≠ q27 := fun q9 => by have h9 := hG23; rw [q9, hz28] at h9; cases h9
  have hn35 : q17 ≠ q27 := fun q9 => by have h9 := hG20; rw [q9, hz28] at h9; cases h9
  have hG36 : G32 a = some (kx (.inr (5, [.ref q1, .int 0, .null, .null, .null, .null, .null, .null]))) := hfc31 a _ hG21 hn22
  have hG37 : G32 q1 = some (kRk D 4 16 0 (fun _ => 0)) := hfc31 q1 _ hG23 hn24
  have hy38 : G q27 = none := by
    cases h9 : G q27 with
    | none => rfl
    | some K9 => exact absurd (hf26 q27 K9 h9 (fun e9 => hn33 e9.symm)) (by rw [hz28]; exact fun h => by cases h)
  have hf39 : gw_fr (fun b => b = a) G G32 := gw_fr.fresh hf26 hy25 hfc31
  refine gw_putF M hK hI hG36 i_Gp t_Gp tk_Gp n_Gp rfl 2 (by decide) f_Gp_24 rfl hin rfl rfl (kx (.inr (5, [.ref q1, .int 0, .ref q17, .null, .null, .null, .null, .null]))) (fun x hx => ⟨_, hx, Nat.le_of_ble_eq_true rfl, rfl⟩) d_Gp_init_29 (fun H locs hI => ?_)
  generalize hE_G40 : gw_up G32 a (kx (.inr (5, [.ref q1, .int 0, .ref q17, .null, .null, .null, .null, .null]))) = G40 at hI
  have hG41 : G40 a = some (kx (.inr (5, [.ref q1, .int 0, .ref q17, .null, .null, .null, .null, .null]))) := by rw [← hE_G40]; exact gw_up_s
  have hG42 : G40 q1 = some (kRk D 4 16 0 (fun _ => 0)) := by rw [← hE_G40, gw_up_n hn6.symm]; exact hG37
  have hG43 : G40 q17 = some (kx (.inr (3, [.ref q27, .int 0, .int 0]))) := by rw [← hE_G40, gw_up_n hn22.symm]; exact hG29
  have hG44 : G40 q27 = some (kA D 1 200 tT) := by rw [← hE_G40, gw_up_n hn33.symm]; exact hG30
  have hf45 : gw_fr (fun b => b = a) G G40 := gw_fr.tr hf39 (by rw [← hE_G40]; exact gw_fr.up rfl)
  refine lv_aload_n hx hb d_Gp_init_32 rfl (lv_at hl 0 rfl) ?_
  refine gw_new M hK hI (ci := 3) (fs := [.null, .int 0, .int 0]) i_Ro t_Ro tk_Ro q_Gp_19 j_Ro z_Ro rfl (fun j hj => by rcases (show j = 0 ∨ j = 1 ∨ j = 2 by omega) with rfl | rfl | rfl <;> rfl) (Nat.le_of_ble_eq_true rfl) (Nat.le_of_ble_eq_true rfl) d_Gp_init_33 (fun q46 H hz47 hI => ?_)
  generalize hE_G48 : gw_up G40 q46 (kx (.inr (3, [.null, .int 0, .int 0]))) = G48 at hI
  have hG49 : G48 q46 = some (kx (.inr (3, [.null, .int 0, .int 0]))) := by rw [← hE_G48]; exact gw_up_s
  have hn51 : a ≠ q46 := fun q9 => by have h9 := hG41; rw [q9, hz47] at h9; cases h9
  have hG50 : G48 a = some (kx (.inr (5, [.ref q1, .int 0, .ref q17, .null, .null, .null, .null, .null]))) := by rw [← hE_G48, gw_up_n hn51]; exact hG41
  have hn53 : q1 ≠ q46 := fun q9 => by have h9 := hG42; rw [q9, hz47] at h9; cases h9
  have hG52 : G48 q1 = some (kRk D 4 16 0 (fun _ => 0)) := by rw [← hE_G48, gw_up_n hn53]; exact hG42
  have hn55 : q17 ≠ q46 := fun q9 => by have h9 := hG43; rw [q9, hz47] at h9; cases h9
  have hG54 : G48 q17 = some (kx (.inr (3, [.ref q27, .int 0, .int 0]))) := by rw [← hE_G48, gw_up_n hn55]; exact hG43
  have hn57 : q27 ≠ q46 := fun q9 => by have h9 := hG44; rw [q9, hz47] at h9; cases h9
  have hG56 : G48 q27 = some (kA D 1 200 tT) := by rw [← hE_G48, gw_up_n hn57]; exact hG44
  have hy58 : G q46 = none := by
    cases h9 : G q46 with
    | none => rfl
    | some K9 => exact absurd (hf45 q46 K9 h9 (fun e9 => hn51 e9.symm)) (by rw [hz47]; exact fun h => by cases h)
  have hf59 : gw_fr (fun b => b = a) G G48 := gw_fr.tr hf45 (by rw [← hE_G48]; exact gw_fr.new hz47)
  refine lv_dup hx hb d_Gp_init_36 rfl ?_
  refine lv_sipush (v := 236) hx hb d_Gp_init_37 (by decide) ?_
  refine gw_Iv (As := [.int 236]) (rest := [.ref q46, .ref a]) M hK hI (c_Ro_init l q46 236 (by decide) hG49) k_Ro_init m_Gp_21 rfl hl.1 rfl (Nat.le_of_ble_eq_true rfl) ⟨rfl, rfl, ⟨Nat.le_of_ble_eq_true rfl, Nat.le_of_ble_eq_true rfl⟩, ⟨Nat.le_of_ble_eq_true rfl, Nat.le_of_ble_eq_true rfl⟩⟩ d_Gp_init_40 (fun G65 H locs hw hI => ?_)
  obtain ⟨q60, hz61, hG62, hG63, hfc64⟩ := hw
  have hn66 : a ≠ q60 := fun q9 => by have h9 := hG50; rw [q9, hz61] at h9; cases h9
  have hn67 : q1 ≠ q60 := fun q9 => by have h9 := hG52; rw [q9, hz61] at h9; cases h9
  have hn68 : q17 ≠ q60 := fun q9 => by have h9 := hG54; rw [q9, hz61] at h9; cases h9
  have hn69 : q27 ≠ q60 := fun q9 => by have h9 := hG56; rw [q9, hz61] at h9; cases h9
  have hn70 : q46 ≠ q60 := fun q9 => by have h9 := hG49; rw [q9, hz61] at h9; cases h9
  have hG71 : G65 a = some (kx (.inr (5, [.ref q1, .int 0, .ref q17, .null, .null, .null, .null, .null]))) := hfc64 a _ hG50 hn51
  have hG72 : G65 q1 = some (kRk D 4 16 0 (fun _ => 0)) := hfc64 q1 _ hG52 hn53
  have hG73 : G65 q17 = some (kx (.inr (3, [.ref q27, .int 0, .int 0]))) := hfc64 q17 _ hG54 hn55
  have hG74 : G65 q27 = some (kA D 1 200 tT) := hfc64 q27 _ hG56 hn57
  have hy75 : G q60 = none := by
    cases h9 : G q60 with
    | none => rfl
    | some K9 => exact absurd (hf59 q60 K9 h9 (fun e9 => hn66 e9.symm)) (by rw [hz61]; exact fun h => by cases h)
  have hf76 : gw_fr (fun b => b = a) G G65 := gw_fr.fresh hf59 hy58 hfc64
  refine gw_putF M hK hI hG71 i_Gp t_Gp tk_Gp n_Gp rfl 3 (by decide) f_Gp_28 rfl hin rfl rfl (kx (.inr (5, [.ref q1, .int 0, .ref q17, .ref q46, .null, .null, .null, .null]))) (fun x hx => ⟨_, hx, Nat.le_of_ble_eq_true rfl, rfl⟩) d_Gp_init_43 (fun H locs hI => ?_)
  generalize hE_G77 : gw_up G65 a (kx (.inr (5, [.ref q1, .int 0, .ref q17, .ref q46, .null, .null, .null, .null]))) = G77 at hI
  have hG78 : G77 a = some (kx (.inr (5, [.ref q1, .int 0, .ref q17, .ref q46, .null, .null, .null, .null]))) := by rw [← hE_G77]; exact gw_up_s
  have hG79 : G77 q1 = some (kRk D 4 16 0 (fun _ => 0)) := by rw [← hE_G77, gw_up_n hn6.symm]; exact hG72
  have hG80 : G77 q17 = some (kx (.inr (3, [.ref q27, .int 0, .int 0]))) := by rw [← hE_G77, gw_up_n hn22.symm]; exact hG73
  have hG81 : G77 q27 = some (kA D 1 200 tT) := by rw [← hE_G77, gw_up_n hn33.symm]; exact hG74
  have hG82 : G77 q46 = some (kx (.inr (3, [.ref q60, .int 0, .int 0]))) := by rw [← hE_G77, gw_up_n hn51.symm]; exact hG62
  have hG83 : G77 q60 = some (kA D 1 236 tT) := by rw [← hE_G77, gw_up_n hn66.symm]; exact hG63
  have hf84 : gw_fr (fun b => b = a) G G77 := gw_fr.tr hf76 (by rw [← hE_G77]; exact gw_fr.up rfl)
  refine lv_aload_n hx hb d_Gp_init_46 rfl (lv_at hl 0 rfl) ?_
  refine lv_bipush (v := 8) hx hb d_Gp_init_47 (by decide) ?_
  refine gw_newq M hK hI q_Gp_19 hK.2.2.1 5 rfl (N' := 8) (by decide) rfl (Nat.le_of_ble_eq_true rfl) (Nat.le_of_ble_eq_true rfl) (Nat.le_of_ble_eq_true rfl) (kRk D 5 8 0 (fun _ => 0)) (⟨_, fun _ h => absurd h (Nat.not_lt_zero _), rfl⟩) d_Gp_init_49 (fun q85 H hz86 hI => ?_)
  generalize hE_G87 : gw_up G77 q85 (kRk D 5 8 0 (fun _ => 0)) = G87 at hI
  have hG88 : G87 q85 = some (kRk D 5 8 0 (fun _ => 0)) := by rw [← hE_G87]; exact gw_up_s
  have hn90 : a ≠ q85 := fun q9 => by have h9 := hG78; rw [q9, hz86] at h9; cases h9
  have hG89 : G87 a = some (kx (.inr (5, [.ref q1, .int 0, .ref q17, .ref q46, .null, .null, .null, .null]))) := by rw [← hE_G87, gw_up_n hn90]; exact hG78
  have hn92 : q1 ≠ q85 := fun q9 => by have h9 := hG79; rw [q9, hz86] at h9; cases h9
  have hG91 : G87 q1 = some (kRk D 4 16 0 (fun _ => 0)) := by rw [← hE_G87, gw_up_n hn92]; exact hG79
  have hn94 : q17 ≠ q85 := fun q9 => by have h9 := hG80; rw [q9, hz86] at h9; cases h9
  have hG93 : G87 q17 = some (kx (.inr (3, [.ref q27, .int 0, .int 0]))) := by rw [← hE_G87, gw_up_n hn94]; exact hG80
  have hn96 : q27 ≠ q85 := fun q9 => by have h9 := hG81; rw [q9, hz86] at h9; cases h9
  have hG95 : G87 q27 = some (kA D 1 200 tT) := by rw [← hE_G87, gw_up_n hn96]; exact hG81
  have hn98 : q46 ≠ q85 := fun q9 => by have h9 := hG82; rw [q9, hz86] at h9; cases h9
  have hG97 : G87 q46 = some (kx (.inr (3, [.ref q60, .int 0, .int 0]))) := by rw [← hE_G87, gw_up_n hn98]; exact hG82
  have hn100 : q60 ≠ q85 := fun q9 => by have h9 := hG83; rw [q9, hz86] at h9; cases h9
  have hG99 : G87 q60 = some (kA D 1 236 tT) := by rw [← hE_G87, gw_up_n hn100]; exact hG83
  have hy101 : G q85 = none := by
    cases h9 : G q85 with
    | none => rfl
    | some K9 => exact absurd (hf84 q85 K9 h9 (fun e9 => hn90 e9.symm)) (by rw [hz86]; exact fun h => by cases h)
  have hf102 : gw_fr (fun b => b = a) G G87 := gw_fr.tr hf84 (by rw [← hE_G87]; exact gw_fr.new hz86)
  refine gw_putF M hK hI hG89 i_Gp t_Gp tk_Gp n_Gp rfl 4 (by decide) f_Gp_31 rfl hin rfl rfl (kx (.inr (5, [.ref q1, .int 0, .ref q17, .ref q46, .ref q85, .null, .null, .null]))) (fun x hx => ⟨_, hx, Nat.le_of_ble_eq_true rfl, rfl⟩) d_Gp_init_52 (fun H locs hI => ?_)
  generalize hE_G103 : gw_up G87 a (kx (.inr (5, [.ref q1, .int 0, .ref q17, .ref q46, .ref q85, .null, .null, .null]))) = G103 at hI
  have hG104 : G103 a = some (kx (.inr (5, [.ref q1, .int 0, .ref q17, .ref q46, .ref q85, .null, .null, .null]))) := by rw [← hE_G103]; exact gw_up_s
  have hG105 : G103 q1 = some (kRk D 4 16 0 (fun _ => 0)) := by rw [← hE_G103, gw_up_n hn6.symm]; exact hG91
  have hG106 : G103 q17 = some (kx (.inr (3, [.ref q27, .int 0, .int 0]))) := by rw [← hE_G103, gw_up_n hn22.symm]; exact hG93
  have hG107 : G103 q27 = some (kA D 1 200 tT) := by rw [← hE_G103, gw_up_n hn33.symm]; exact hG95
  have hG108 : G103 q46 = some (kx (.inr (3, [.ref q60, .int 0, .int 0]))) := by rw [← hE_G103, gw_up_n hn51.symm]; exact hG97
  have hG109 : G103 q60 = some (kA D 1 236 tT) := by rw [← hE_G103, gw_up_n hn66.symm]; exact hG99
  have hG110 : G103 q85 = some (kRk D 5 8 0 (fun _ => 0)) := by rw [← hE_G103, gw_up_n hn90.symm]; exact hG88
  have hf111 : gw_fr (fun b => b = a) G G103 := gw_fr.tr hf102 (by rw [← hE_G103]; exact gw_fr.up rfl)
  refine lv_aload_n hx hb d_Gp_init_55 rfl (lv_at hl 0 rfl) ?_
  refine gw_new M hK hI (ci := 3) (fs := [.null, .int 0, .int 0]) i_Ro t_Ro tk_Ro q_Gp_19 j_Ro z_Ro rfl (fun j hj => by rcases (show j = 0 ∨ j = 1 ∨ j = 2 by omega) with rfl | rfl | rfl <;> rfl) (Nat.le_of_ble_eq_true rfl) (Nat.le_of_ble_eq_true rfl) d_Gp_init_56 (fun q112 H hz113 hI => ?_)
  generalize hE_G114 : gw_up G103 q112 (kx (.inr (3, [.null, .int 0, .int 0]))) = G114 at hI
  have hG115 : G114 q112 = some (kx (.inr (3, [.null, .int 0, .int 0]))) := by rw [← hE_G114]; exact gw_up_s
  have hn117 : a ≠ q112 := fun q9 => by have h9 := hG104; rw [q9, hz113] at h9; cases h9
  have hG116 : G114 a = some (kx (.inr (5, [.ref q1, .int 0, .ref q17, .ref q46, .ref q85, .null, .null, .null]))) := by rw [← hE_G114, gw_up_n hn117]; exact hG104
  have hn119 : q1 ≠ q112 := fun q9 => by have h9 := hG105; rw [q9, hz113] at h9; cases h9
  have hG118 : G114 q1 = some (kRk D 4 16 0 (fun _ => 0)) := by rw [← hE_G114, gw_up_n hn119]; exact hG105
  have hn121 : q17 ≠ q112 := fun q9 => by have h9 := hG106; rw [q9, hz113] at h9; cases h9
  have hG120 : G114 q17 = some (kx (.inr (3, [.ref q27, .int 0, .int 0]))) := by rw [← hE_G114, gw_up_n hn121]; exact hG106
  have hn123 : q27 ≠ q112 := fun q9 => by have h9 := hG107; rw [q9, hz113] at h9; cases h9
  have hG122 : G114 q27 = some (kA D 1 200 tT) := by rw [← hE_G114, gw_up_n hn123]; exact hG107
  have hn125 : q46 ≠ q112 := fun q9 => by have h9 := hG108; rw [q9, hz113] at h9; cases h9
  have hG124 : G114 q46 = some (kx (.inr (3, [.ref q60, .int 0, .int 0]))) := by rw [← hE_G114, gw_up_n hn125]; exact hG108
  have hn127 : q60 ≠ q112 := fun q9 => by have h9 := hG109; rw [q9, hz113] at h9; cases h9
  have hG126 : G114 q60 = some (kA D 1 236 tT) := by rw [← hE_G114, gw_up_n hn127]; exact hG109
  have hn129 : q85 ≠ q112 := fun q9 => by have h9 := hG110; rw [q9, hz113] at h9; cases h9
  have hG128 : G114 q85 = some (kRk D 5 8 0 (fun _ => 0)) := by rw [← hE_G114, gw_up_n hn129]; exact hG110
  have hy130 : G q112 = none := by
    cases h9 : G q112 with
    | none => rfl
    | some K9 => exact absurd (hf111 q112 K9 h9 (fun e9 => hn117 e9.symm)) (by rw [hz113]; exact fun h => by cases h)
  have hf131 : gw_fr (fun b => b = a) G G114 := gw_fr.tr hf111 (by rw [← hE_G114]; exact gw_fr.new hz113)
  refine lv_dup hx hb d_Gp_init_59 rfl ?_
  refine lv_sipush (v := 204) hx hb d_Gp_init_60 (by decide) ?_
  refine gw_Iv (As := [.int 204]) (rest := [.ref q112, .ref a]) M hK hI (c_Ro_init l q112 204 (by decide) hG115) k_Ro_init m_Gp_21 rfl hl.1 rfl (Nat.le_of_ble_eq_true rfl) ⟨rfl, rfl, ⟨Nat.le_of_ble_eq_true rfl, Nat.le_of_ble_eq_true rfl⟩, ⟨Nat.le_of_ble_eq_true rfl, Nat.le_of_ble_eq_true rfl⟩⟩ d_Gp_init_63 (fun G137 H locs hw hI => ?_)
  obtain ⟨q132, hz133, hG134, hG135, hfc136⟩ := hw
  have hn138 : a ≠ q132 := fun q9 => by have h9 := hG116; rw [q9, hz133] at h9; cases h9
  have hn139 : q1 ≠ q132 := fun q9 => by have h9 := hG118; rw [q9, hz133] at h9; cases h9
  have hn140 : q17 ≠ q132 := fun q9 => by have h9 := hG120; rw [q9, hz133] at h9; cases h9
  have hn141 : q27 ≠ q132 := fun q9 => by have h9 := hG122; rw [q9, hz133] at h9; cases h9
  have hn142 : q46 ≠ q132 := fun q9 => by have h9 := hG124; rw [q9, hz133] at h9; cases h9
  have hn143 : q60 ≠ q132 := fun q9 => by have h9 := hG126; rw [q9, hz133] at h9; cases h9
  have hn144 : q85 ≠ q132 := fun q9 => by have h9 := hG128; rw [q9, hz133] at h9; cases h9
  have hn145 : q112 ≠ q132 := fun q9 => by have h9 := hG115; rw [q9, hz133] at h9; cases h9
  have hG146 : G137 a = some (kx (.inr (5, [.ref q1, .int 0, .ref q17, .ref q46, .ref q85, .null, .null, .null]))) := hfc136 a _ hG116 hn117
  have hG147 : G137 q1 = some (kRk D 4 16 0 (fun _ => 0)) := hfc136 q1 _ hG118 hn119
  have hG148 : G137 q17 = some (kx (.inr (3, [.ref q27, .int 0, .int 0]))) := hfc136 q17 _ hG120 hn121
  have hG149 : G137 q27 = some (kA D 1 200 tT) := hfc136 q27 _ hG122 hn123
  have hG150 : G137 q46 = some (kx (.inr (3, [.ref q60, .int 0, .int 0]))) := hfc136 q46 _ hG124 hn125
  have hG151 : G137 q60 = some (kA D 1 236 tT) := hfc136 q60 _ hG126 hn127
  have hG152 : G137 q85 = some (kRk D 5 8 0 (fun _ => 0)) := hfc136 q85 _ hG128 hn129
  have hy153 : G q132 = none := by
    cases h9 : G q132 with
    | none => rfl
    | some K9 => exact absurd (hf131 q132 K9 h9 (fun e9 => hn138 e9.symm)) (by rw [hz133]; exact fun h => by cases h)
  have hf154 : gw_fr (fun b => b = a) G G137 := gw_fr.fresh hf131 hy130 hfc136
  refine gw_putF M hK hI hG146 i_Gp t_Gp tk_Gp n_Gp rfl 5 (by decide) f_Gp_35 rfl hin rfl rfl (kx (.inr (5, [.ref q1, .int 0, .ref q17, .ref q46, .ref q85, .ref q112, .null, .null]))) (fun x hx => ⟨_, hx, Nat.le_of_ble_eq_true rfl, rfl⟩) d_Gp_init_66 (fun H locs hI => ?_)
  generalize hE_G155 : gw_up G137 a (kx (.inr (5, [.ref q1, .int 0, .ref q17, .ref q46, .ref q85, .ref q112, .null, .null]))) = G155 at hI
  have hG156 : G155 a = some (kx (.inr (5, [.ref q1, .int 0, .ref q17, .ref q46, .ref q85, .ref q112, .null, .null]))) := by rw [← hE_G155]; exact gw_up_s
  have hG157 : G155 q1 = some (kRk D 4 16 0 (fun _ => 0)) := by rw [← hE_G155, gw_up_n hn6.symm]; exact hG147
  have hG158 : G155 q17 = some (kx (.inr (3, [.ref q27, .int 0, .int 0]))) := by rw [← hE_G155, gw_up_n hn22.symm]; exact hG148
  have hG159 : G155 q27 = some (kA D 1 200 tT) := by rw [← hE_G155, gw_up_n hn33.symm]; exact hG149
  have hG160 : G155 q46 = some (kx (.inr (3, [.ref q60, .int 0, .int 0]))) := by rw [← hE_G155, gw_up_n hn51.symm]; exact hG150
  have hG161 : G155 q60 = some (kA D 1 236 tT) := by rw [← hE_G155, gw_up_n hn66.symm]; exact hG151
  have hG162 : G155 q85 = some (kRk D 5 8 0 (fun _ => 0)) := by rw [← hE_G155, gw_up_n hn90.symm]; exact hG152
  have hG163 : G155 q112 = some (kx (.inr (3, [.ref q132, .int 0, .int 0]))) := by rw [← hE_G155, gw_up_n hn117.symm]; exact hG134
  have hG164 : G155 q132 = some (kA D 1 204 tT) := by rw [← hE_G155, gw_up_n hn138.symm]; exact hG135
  have hf165 : gw_fr (fun b => b = a) G G155 := gw_fr.tr hf154 (by rw [← hE_G155]; exact gw_fr.up rfl)
  refine lv_aload_n hx hb d_Gp_init_69 rfl (lv_at hl 0 rfl) ?_
  refine gw_new M hK hI (ci := 3) (fs := [.null, .int 0, .int 0]) i_Ro t_Ro tk_Ro q_Gp_19 j_Ro z_Ro rfl (fun j hj => by rcases (show j = 0 ∨ j = 1 ∨ j = 2 by omega) with rfl | rfl | rfl <;> rfl) (Nat.le_of_ble_eq_true rfl) (Nat.le_of_ble_eq_true rfl) d_Gp_init_70 (fun q166 H hz167 hI => ?_)
  generalize hE_G168 : gw_up G155 q166 (kx (.inr (3, [.null, .int 0, .int 0]))) = G168 at hI
  have hG169 : G168 q166 = some (kx (.inr (3, [.null, .int 0, .int 0]))) := by rw [← hE_G168]; exact gw_up_s
  have hn171 : a ≠ q166 := fun q9 => by have h9 := hG156; rw [q9, hz167] at h9; cases h9
  have hG170 : G168 a = some (kx (.inr (5, [.ref q1, .int 0, .ref q17, .ref q46, .ref q85, .ref q112, .null, .null]))) := by rw [← hE_G168, gw_up_n hn171]; exact hG156
  have hn173 : q1 ≠ q166 := fun q9 => by have h9 := hG157; rw [q9, hz167] at h9; cases h9
  have hG172 : G168 q1 = some (kRk D 4 16 0 (fun _ => 0)) := by rw [← hE_G168, gw_up_n hn173]; exact hG157
  have hn175 : q17 ≠ q166 := fun q9 => by have h9 := hG158; rw [q9, hz167] at h9; cases h9
  have hG174 : G168 q17 = some (kx (.inr (3, [.ref q27, .int 0, .int 0]))) := by rw [← hE_G168, gw_up_n hn175]; exact hG158
  have hn177 : q27 ≠ q166 := fun q9 => by have h9 := hG159; rw [q9, hz167] at h9; cases h9
  have hG176 : G168 q27 = some (kA D 1 200 tT) := by rw [← hE_G168, gw_up_n hn177]; exact hG159
  have hn179 : q46 ≠ q166 := fun q9 => by have h9 := hG160; rw [q9, hz167] at h9; cases h9
  have hG178 : G168 q46 = some (kx (.inr (3, [.ref q60, .int 0, .int 0]))) := by rw [← hE_G168, gw_up_n hn179]; exact hG160
  have hn181 : q60 ≠ q166 := fun q9 => by have h9 := hG161; rw [q9, hz167] at h9; cases h9
  have hG180 : G168 q60 = some (kA D 1 236 tT) := by rw [← hE_G168, gw_up_n hn181]; exact hG161
  have hn183 : q85 ≠ q166 := fun q9 => by have h9 := hG162; rw [q9, hz167] at h9; cases h9
  have hG182 : G168 q85 = some (kRk D 5 8 0 (fun _ => 0)) := by rw [← hE_G168, gw_up_n hn183]; exact hG162
  have hn185 : q112 ≠ q166 := fun q9 => by have h9 := hG163; rw [q9, hz167] at h9; cases h9
  have hG184 : G168 q112 = some (kx (.inr (3, [.ref q132, .int 0, .int 0]))) := by rw [← hE_G168, gw_up_n hn185]; exact hG163
  have hn187 : q132 ≠ q166 := fun q9 => by have h9 := hG164; rw [q9, hz167] at h9; cases h9
  have hG186 : G168 q132 = some (kA D 1 204 tT) := by rw [← hE_G168, gw_up_n hn187]; exact hG164
  have hy188 : G q166 = none := by
    cases h9 : G q166 with
    | none => rfl
    | some K9 => exact absurd (hf165 q166 K9 h9 (fun e9 => hn171 e9.symm)) (by rw [hz167]; exact fun h => by cases h)
  have hf189 : gw_fr (fun b => b = a) G G168 := gw_fr.tr hf165 (by rw [← hE_G168]; exact gw_fr.new hz167)
  refine lv_dup hx hb d_Gp_init_73 rfl ?_
  refine lv_sipush (v := 204) hx hb d_Gp_init_74 (by decide) ?_
  refine gw_Iv (As := [.int 204]) (rest := [.ref q166, .ref a]) M hK hI (c_Ro_init l q166 204 (by decide) hG169) k_Ro_init m_Gp_21 rfl hl.1 rfl (Nat.le_of_ble_eq_true rfl) ⟨rfl, rfl, ⟨Nat.le_of_ble_eq_true rfl, Nat.le_of_ble_eq_true rfl⟩, ⟨Nat.le_of_ble_eq_true rfl, Nat.le_of_ble_eq_true rfl⟩⟩ d_Gp_init_77 (fun G195 H locs hw hI => ?_)
  obtain ⟨q190, hz191, hG192, hG193, hfc194⟩ := hw
  have hn196 : a ≠ q190 := fun q9 => by have h9 := hG170; rw [q9, hz191] at h9; cases h9
  have hn197 : q1 ≠ q190 := fun q9 => by have h9 := hG172; rw [q9, hz191] at h9; cases h9
  have hn198 : q17 ≠ q190 := fun q9 => by have h9 := hG174; rw [q9, hz191] at h9; cases h9
  have hn199 : q27 ≠ q190 := fun q9 => by have h9 := hG176; rw [q9, hz191] at h9; cases h9
  have hn200 : q46 ≠ q190 := fun q9 => by have h9 := hG178; rw [q9, hz191] at h9; cases h9
  have hn201 : q60 ≠ q190 := fun q9 => by have h9 := hG180; rw [q9, hz191] at h9; cases h9
  have hn202 : q85 ≠ q190 := fun q9 => by have h9 := hG182; rw [q9, hz191] at h9; cases h9
  have hn203 : q112 ≠ q190 := fun q9 => by have h9 := hG184; rw [q9, hz191] at h9; cases h9
  have hn204 : q132 ≠ q190 := fun q9 => by have h9 := hG186; rw [q9, hz191] at h9; cases h9
  have hn205 : q166 ≠ q190 := fun q9 => by have h9 := hG169; rw [q9, hz191] at h9; cases h9
  have hG206 : G195 a = some (kx (.inr (5, [.ref q1, .int 0, .ref q17, .ref q46, .ref q85, .ref q112, .null, .null]))) := hfc194 a _ hG170 hn171
  have hG207 : G195 q1 = some (kRk D 4 16 0 (fun _ => 0)) := hfc194 q1 _ hG172 hn173
  have hG208 : G195 q17 = some (kx (.inr (3, [.ref q27, .int 0, .int 0]))) := hfc194 q17 _ hG174 hn175
  have hG209 : G195 q27 = some (kA D 1 200 tT) := hfc194 q27 _ hG176 hn177
  have hG210 : G195 q46 = some (kx (.inr (3, [.ref q60, .int 0, .int 0]))) := hfc194 q46 _ hG178 hn179
  have hG211 : G195 q60 = some (kA D 1 236 tT) := hfc194 q60 _ hG180 hn181
  have hG212 : G195 q85 = some (kRk D 5 8 0 (fun _ => 0)) := hfc194 q85 _ hG182 hn183
  have hG213 : G195 q112 = some (kx (.inr (3, [.ref q132, .int 0, .int 0]))) := hfc194 q112 _ hG184 hn185
  have hG214 : G195 q132 = some (kA D 1 204 tT) := hfc194 q132 _ hG186 hn187
  have hy215 : G q190 = none := by
    cases h9 : G q190 with
    | none => rfl
    | some K9 => exact absurd (hf189 q190 K9 h9 (fun e9 => hn196 e9.symm)) (by rw [hz191]; exact fun h => by cases h)
  have hf216 : gw_fr (fun b => b = a) G G195 := gw_fr.fresh hf189 hy188 hfc194
  refine gw_putF M hK hI hG206 i_Gp t_Gp tk_Gp n_Gp rfl 6 (by decide) f_Gp_38 rfl hin rfl rfl (kx (.inr (5, [.ref q1, .int 0, .ref q17, .ref q46, .ref q85, .ref q112, .ref q166, .null]))) (fun x hx => ⟨_, hx, Nat.le_of_ble_eq_true rfl, rfl⟩) d_Gp_init_80 (fun H locs hI => ?_)
  generalize hE_G217 : gw_up G195 a (kx (.inr (5, [.ref q1, .int 0, .ref q17, .ref q46, .ref q85, .ref q112, .ref q166, .null]))) = G217 at hI
  have hG218 : G217 a = some (kx (.inr (5, [.ref q1, .int 0, .ref q17, .ref q46, .ref q85, .ref q112, .ref q166, .null]))) := by rw [← hE_G217]; exact gw_up_s
  have hG219 : G217 q1 = some (kRk D 4 16 0 (fun _ => 0)) := by rw [← hE_G217, gw_up_n hn6.symm]; exact hG207
  have hG220 : G217 q17 = some (kx (.inr (3, [.ref q27, .int 0, .int 0]))) := by rw [← hE_G217, gw_up_n hn22.symm]; exact hG208
  have hG221 : G217 q27 = some (kA D 1 200 tT) := by rw [← hE_G217, gw_up_n hn33.symm]; exact hG209
  have hG222 : G217 q46 = some (kx (.inr (3, [.ref q60, .int 0, .int 0]))) := by rw [← hE_G217, gw_up_n hn51.symm]; exact hG210
  have hG223 : G217 q60 = some (kA D 1 236 tT) := by rw [← hE_G217, gw_up_n hn66.symm]; exact hG211
  have hG224 : G217 q85 = some (kRk D 5 8 0 (fun _ => 0)) := by rw [← hE_G217, gw_up_n hn90.symm]; exact hG212
  have hG225 : G217 q112 = some (kx (.inr (3, [.ref q132, .int 0, .int 0]))) := by rw [← hE_G217, gw_up_n hn117.symm]; exact hG213
  have hG226 : G217 q132 = some (kA D 1 204 tT) := by rw [← hE_G217, gw_up_n hn138.symm]; exact hG214
  have hG227 : G217 q166 = some (kx (.inr (3, [.ref q190, .int 0, .int 0]))) := by rw [← hE_G217, gw_up_n hn171.symm]; exact hG192
  have hG228 : G217 q190 = some (kA D 1 204 tT) := by rw [← hE_G217, gw_up_n hn196.symm]; exact hG193
  have hf229 : gw_fr (fun b => b = a) G G217 := gw_fr.tr hf216 (by rw [← hE_G217]; exact gw_fr.up rfl)
  refine lv_aload_n hx hb d_Gp_init_83 rfl (lv_at hl 0 rfl) ?_
  refine gw_new M hK hI (ci := 1) (fs := [.long 0, .long 0]) i_Ch t_Ch tk_Ch q_Gp_41 j_Ch z_Ch rfl (fun j hj => by rcases (show j = 0 ∨ j = 1 by omega) with rfl | rfl <;> rfl) (Nat.le_of_ble_eq_true rfl) (Nat.le_of_ble_eq_true rfl) d_Gp_init_84 (fun q230 H hz231 hI => ?_)
  generalize hE_G232 : gw_up G217 q230 (kx (.inr (1, [.long 0, .long 0]))) = G232 at hI
  have hG233 : G232 q230 = some (kx (.inr (1, [.long 0, .long 0]))) := by rw [← hE_G232]; exact gw_up_s
  have hn235 : a ≠ q230 := fun q9 => by have h9 := hG218; rw [q9, hz231] at h9; cases h9
  have hG234 : G232 a = some (kx (.inr (5, [.ref q1, .int 0, .ref q17, .ref q46, .ref q85, .ref q112, .ref q166, .null]))) := by rw [← hE_G232, gw_up_n hn235]; exact hG218
  have hn237 : q1 ≠ q230 := fun q9 => by have h9 := hG219; rw [q9, hz231] at h9; cases h9
  have hG236 : G232 q1 = some (kRk D 4 16 0 (fun _ => 0)) := by rw [← hE_G232, gw_up_n hn237]; exact hG219
  have hn239 : q17 ≠ q230 := fun q9 => by have h9 := hG220; rw [q9, hz231] at h9; cases h9
  have hG238 : G232 q17 = some (kx (.inr (3, [.ref q27, .int 0, .int 0]))) := by rw [← hE_G232, gw_up_n hn239]; exact hG220
  have hn241 : q27 ≠ q230 := fun q9 => by have h9 := hG221; rw [q9, hz231] at h9; cases h9
  have hG240 : G232 q27 = some (kA D 1 200 tT) := by rw [← hE_G232, gw_up_n hn241]; exact hG221
  have hn243 : q46 ≠ q230 := fun q9 => by have h9 := hG222; rw [q9, hz231] at h9; cases h9
  have hG242 : G232 q46 = some (kx (.inr (3, [.ref q60, .int 0, .int 0]))) := by rw [← hE_G232, gw_up_n hn243]; exact hG222
  have hn245 : q60 ≠ q230 := fun q9 => by have h9 := hG223; rw [q9, hz231] at h9; cases h9
  have hG244 : G232 q60 = some (kA D 1 236 tT) := by rw [← hE_G232, gw_up_n hn245]; exact hG223
  have hn247 : q85 ≠ q230 := fun q9 => by have h9 := hG224; rw [q9, hz231] at h9; cases h9
  have hG246 : G232 q85 = some (kRk D 5 8 0 (fun _ => 0)) := by rw [← hE_G232, gw_up_n hn247]; exact hG224
  have hn249 : q112 ≠ q230 := fun q9 => by have h9 := hG225; rw [q9, hz231] at h9; cases h9
  have hG248 : G232 q112 = some (kx (.inr (3, [.ref q132, .int 0, .int 0]))) := by rw [← hE_G232, gw_up_n hn249]; exact hG225
  have hn251 : q132 ≠ q230 := fun q9 => by have h9 := hG226; rw [q9, hz231] at h9; cases h9
  have hG250 : G232 q132 = some (kA D 1 204 tT) := by rw [← hE_G232, gw_up_n hn251]; exact hG226
  have hn253 : q166 ≠ q230 := fun q9 => by have h9 := hG227; rw [q9, hz231] at h9; cases h9
  have hG252 : G232 q166 = some (kx (.inr (3, [.ref q190, .int 0, .int 0]))) := by rw [← hE_G232, gw_up_n hn253]; exact hG227
  have hn255 : q190 ≠ q230 := fun q9 => by have h9 := hG228; rw [q9, hz231] at h9; cases h9
  have hG254 : G232 q190 = some (kA D 1 204 tT) := by rw [← hE_G232, gw_up_n hn255]; exact hG228
  have hy256 : G q230 = none := by
    cases h9 : G q230 with
    | none => rfl
    | some K9 => exact absurd (hf229 q230 K9 h9 (fun e9 => hn235 e9.symm)) (by rw [hz231]; exact fun h => by cases h)
  have hf257 : gw_fr (fun b => b = a) G G232 := gw_fr.tr hf229 (by rw [← hE_G232]; exact gw_fr.new hz231)
  refine lv_dup hx hb d_Gp_init_87 rfl ?_
  refine gw_Nv (As := []) (rest := [.ref q230, .ref a]) M hK hI (c_Ch_init l q230 hG233) k_Ch_init hK.2.2.2.1 rfl hl.1 rfl (Nat.le_of_ble_eq_true rfl) ⟨rfl, rfl, ⟨Nat.le_of_ble_eq_true rfl, Nat.le_of_ble_eq_true rfl⟩, ⟨Nat.le_of_ble_eq_true rfl, Nat.le_of_ble_eq_true rfl⟩⟩ d_Gp_init_88 (fun G260 H locs hw hI => ?_)
  obtain ⟨hG258, hfc259⟩ := hw
  have hG261 : G260 a = some (kx (.inr (5, [.ref q1, .int 0, .ref q17, .ref q46, .ref q85, .ref q112, .ref q166, .null]))) := hfc259 a _ hG234 hn235
  have hG262 : G260 q1 = some (kRk D 4 16 0 (fun _ => 0)) := hfc259 q1 _ hG236 hn237
  have hG263 : G260 q17 = some (kx (.inr (3, [.ref q27, .int 0, .int 0]))) := hfc259 q17 _ hG238 hn239
  have hG264 : G260 q27 = some (kA D 1 200 tT) := hfc259 q27 _ hG240 hn241
  have hG265 : G260 q46 = some (kx (.inr (3, [.ref q60, .int 0, .int 0]))) := hfc259 q46 _ hG242 hn243
  have hG266 : G260 q60 = some (kA D 1 236 tT) := hfc259 q60 _ hG244 hn245
  have hG267 : G260 q85 = some (kRk D 5 8 0 (fun _ => 0)) := hfc259 q85 _ hG246 hn247
  have hG268 : G260 q112 = some (kx (.inr (3, [.ref q132, .int 0, .int 0]))) := hfc259 q112 _ hG248 hn249
  have hG269 : G260 q132 = some (kA D 1 204 tT) := hfc259 q132 _ hG250 hn251
  have hG270 : G260 q166 = some (kx (.inr (3, [.ref q190, .int 0, .int 0]))) := hfc259 q166 _ hG252 hn253
  have hG271 : G260 q190 = some (kA D 1 204 tT) := hfc259 q190 _ hG254 hn255
  have hf272 : gw_fr (fun b => b = a) G G260 := gw_fr.fresh hf257 hy256 hfc259
  refine gw_putF M hK hI hG261 i_Gp t_Gp tk_Gp n_Gp rfl 7 (by decide) f_Gp_44 rfl hin rfl rfl (kx (.inr (5, [.ref q1, .int 0, .ref q17, .ref q46, .ref q85, .ref q112, .ref q166, .ref q230]))) (fun x hx => ⟨_, hx, Nat.le_of_ble_eq_true rfl, rfl⟩) d_Gp_init_91 (fun H locs hI => ?_)
  generalize hE_G273 : gw_up G260 a (kx (.inr (5, [.ref q1, .int 0, .ref q17, .ref q46, .ref q85, .ref q112, .ref q166, .ref q230]))) = G273 at hI
  have hG274 : G273 a = some (kx (.inr (5, [.ref q1, .int 0, .ref q17, .ref q46, .ref q85, .ref q112, .ref q166, .ref q230]))) := by rw [← hE_G273]; exact gw_up_s
  have hG275 : G273 q1 = some (kRk D 4 16 0 (fun _ => 0)) := by rw [← hE_G273, gw_up_n hn6.symm]; exact hG262
  have hG276 : G273 q17 = some (kx (.inr (3, [.ref q27, .int 0, .int 0]))) := by rw [← hE_G273, gw_up_n hn22.symm]; exact hG263
  have hG277 : G273 q27 = some (kA D 1 200 tT) := by rw [← hE_G273, gw_up_n hn33.symm]; exact hG264
  have hG278 : G273 q46 = some (kx (.inr (3, [.ref q60, .int 0, .int 0]))) := by rw [← hE_G273, gw_up_n hn51.symm]; exact hG265
  have hG279 : G273 q60 = some (kA D 1 236 tT) := by rw [← hE_G273, gw_up_n hn66.symm]; exact hG266
  have hG280 : G273 q85 = some (kRk D 5 8 0 (fun _ => 0)) := by rw [← hE_G273, gw_up_n hn90.symm]; exact hG267
  have hG281 : G273 q112 = some (kx (.inr (3, [.ref q132, .int 0, .int 0]))) := by rw [← hE_G273, gw_up_n hn117.symm]; exact hG268
  have hG282 : G273 q132 = some (kA D 1 204 tT) := by rw [← hE_G273, gw_up_n hn138.symm]; exact hG269
  have hG283 : G273 q166 = some (kx (.inr (3, [.ref q190, .int 0, .int 0]))) := by rw [← hE_G273, gw_up_n hn171.symm]; exact hG270
  have hG284 : G273 q190 = some (kA D 1 204 tT) := by rw [← hE_G273, gw_up_n hn196.symm]; exact hG271
  have hG285 : G273 q230 = some (kx (.inr (1, [.long 0, .long 0]))) := by rw [← hE_G273, gw_up_n hn235.symm]; exact hG258
  have hf286 : gw_fr (fun b => b = a) G G273 := gw_fr.tr hf272 (by rw [← hE_G273]; exact gw_fr.up rfl)
  refine lv_iconst (v := 0) hx hb d_Gp_init_94 (by decide) ?_
  refine lv_istore_n (lv' := [(1, .int 0), (0, .ref a)]) hx hb d_Gp_init_95 rfl hl (by decide) rfl (fun ls hl => ?_)
  have L_96 : ∀ (n9 : Nat) (k : Nat) (y1 : Int32) (Gk : gw_G) (as : Nat → Nat) (H : Heap) (locs : List Loc) (ls : Array Slot), k ≤ 16 → y1 = nI k → Gk a = some (kx (.inr (5, [.ref q1, .int 0, .ref q17, .ref q46, .ref q85, .ref q112, .ref q166, .ref q230]))) → Gk q17 = some (kx (.inr (3, [.ref q27, .int 0, .int 0]))) → Gk q27 = some (kA D 1 200 tT) → Gk q46 = some (kx (.inr (3, [.ref q60, .int 0, .int 0]))) → Gk q60 = some (kA D 1 236 tT) → Gk q85 = some (kRk D 5 8 0 (fun _ => 0)) → Gk q166 = some (kx (.inr (3, [.ref q190, .int 0, .int 0]))) → Gk q190 = some (kA D 1 204 tT) → Gk q1 = some (kRk D 4 16 k as) → (∀ j, j < k → isAs D Gk (as j)) → gw_fr (fun b => b = a) G Gk → 16 - k < n9 → gw_I D Hs Gk s.heap H locs → lv_has ls 2 [(1, .int y1), (0, .ref a)] → W p l e rm_Gp_init s m args below meth c H locs (11 + 5 * k) (4038 + 94 * k) (MQ below (gw_Qv D Hs (fun G1 => gp_new D a G1 ∧ gw_fr (fun b => b = a) G G1)) args s 107 13566 (gw_A Hs)) (F0 m 96 ls []) := by
    intro n9
    induction n9 with
    | zero =>
      intro k y1 Gk as H locs ls h16 hk h_a h_fed h_fb h_sent h_sb h_places h_gained h_gb h_arr hAs hfG hm hI hl
      exact absurd hm (Nat.not_lt_zero _)
    | succ n9 ih_96 =>
      intro k y1 Gk as H locs ls h16 hk h_a h_fed h_fb h_sent h_sb h_places h_gained h_gb h_arr hAs hfG hm_96 hI hl
      have hfk : gw_fr (fun b => b = q1) Gk Gk := gw_fr.rf
      refine lv_iload_n hx hb d_Gp_init_96 rfl (lv_at hl 0 rfl) ?_
      refine lv_bipush (v := 16) hx hb d_Gp_init_97 (by decide) ?_
      refine lv_icmp_ge (tgt := 121) hx hb d_Gp_init_99 (by decide) (fun c_99 => ?_) (fun c_99 => ?_)
      · have hk16 : k = 16 := Nat.le_antisymm h16 (nb_ge (n := 16) hk c_99 (by decide) (z_31 h16))
        subst hk16
        have hI := hI.soft (K' := (kR D 4 16 (fun j b => b = as j))) h_arr kRk_full
        generalize hE_G287 : gw_up Gk q1 (kR D 4 16 (fun j b => b = as j)) = G287 at hI
        have hG288 : G287 a = some (kx (.inr (5, [.ref q1, .int 0, .ref q17, .ref q46, .ref q85, .ref q112, .ref q166, .ref q230]))) := by rw [← hE_G287, gw_up_n hn6]; exact h_a
        have hG289 : G287 q17 = some (kx (.inr (3, [.ref q27, .int 0, .int 0]))) := by rw [← hE_G287, gw_up_n hn24.symm]; exact h_fed
        have hG290 : G287 q27 = some (kA D 1 200 tT) := by rw [← hE_G287, gw_up_n hn34.symm]; exact h_fb
        have hG291 : G287 q46 = some (kx (.inr (3, [.ref q60, .int 0, .int 0]))) := by rw [← hE_G287, gw_up_n hn53.symm]; exact h_sent
        have hG292 : G287 q60 = some (kA D 1 236 tT) := by rw [← hE_G287, gw_up_n hn67.symm]; exact h_sb
        have hG293 : G287 q85 = some (kRk D 5 8 0 (fun _ => 0)) := by rw [← hE_G287, gw_up_n hn92.symm]; exact h_places
        have hG294 : G287 q166 = some (kx (.inr (3, [.ref q190, .int 0, .int 0]))) := by rw [← hE_G287, gw_up_n hn173.symm]; exact h_gained
        have hG295 : G287 q190 = some (kA D 1 204 tT) := by rw [← hE_G287, gw_up_n hn197.symm]; exact h_gb
        have hG296 : G287 q1 = some (kR D 4 16 (fun j b => b = as j)) := by rw [← hE_G287]; exact gw_up_s
        have hfx : gw_fr (fun b => b = q1) Gk G287 := by rw [← hE_G287]; exact gw_fr.up rfl
        have hAs := fun j hj => (hAs j hj).mono hfx h_arr
        have hfG : gw_fr (fun b => b = a) G G287 := gw_fr.fresh hfG hy7 hfx
        refine lv_iconst (v := 0) hx hb d_Gp_init_121 (by decide) ?_
        refine lv_istore_n (lv' := [(1, .int 0), (0, .ref a)]) hx hb d_Gp_init_122 rfl hl (by decide) rfl (fun ls hl => ?_)
        have L_123 : ∀ (n9 : Nat) (k : Nat) (y1 : Int32) (Gm : gw_G) (ro : Nat → Nat) (H : Heap) (locs : List Loc) (ls : Array Slot), k ≤ 8 → y1 = nI k → Gm a = some (kx (.inr (5, [.ref q1, .int 0, .ref q17, .ref q46, .ref q85, .ref q112, .ref q166, .ref q230]))) → Gm q17 = some (kx (.inr (3, [.ref q27, .int 0, .int 0]))) → Gm q27 = some (kA D 1 200 tT) → Gm q46 = some (kx (.inr (3, [.ref q60, .int 0, .int 0]))) → Gm q60 = some (kA D 1 236 tT) → Gm q166 = some (kx (.inr (3, [.ref q190, .int 0, .int 0]))) → Gm q190 = some (kA D 1 204 tT) → Gm q1 = some (kR D 4 16 (fun j b => b = as j)) → Gm q85 = some (kRk D 5 8 k ro) → (∀ j, j < 16 → isAs D Gm (as j)) → (∀ j, j < k → isRo D Gm 236 (ro j)) → (∀ j, j < k → q46 ≠ ro j) → gw_fr (fun b => b = a) G Gm → 8 - k < n9 → gw_I D Hs Gm s.heap H locs → lv_has ls 2 [(1, .int y1), (0, .ref a)] → W p l e rm_Gp_init s m args below meth c H locs (91 + 2 * k) (5542 + 1003 * k) (MQ below (gw_Qv D Hs (fun G1 => gp_new D a G1 ∧ gw_fr (fun b => b = a) G G1)) args s 107 13566 (gw_A Hs)) (F0 m 123 ls []) := by
          intro n9
          induction n9 with
          | zero =>
            intro k y1 Gm ro H locs ls h8 hk h_a h_fed h_fb h_sent h_sb h_gained h_gb h_arr h_places hAs hRo hNe hfG hm hI hl
            exact absurd hm (Nat.not_lt_zero _)
          | succ n9 ih_123 =>
            intro k y1 Gm ro H locs ls h8 hk h_a h_fed h_fb h_sent h_sb h_gained h_gb h_arr h_places hAs hRo hNe hfG hm_123 hI hl
            have hfk : gw_fr (fun b => b = q85) Gm Gm := gw_fr.rf
            refine lv_iload_n hx hb d_Gp_init_123 rfl (lv_at hl 0 rfl) ?_
            refine lv_bipush (v := 8) hx hb d_Gp_init_124 (by decide) ?_
            refine lv_icmp_ge (tgt := 151) hx hb d_Gp_init_126 (by decide) (fun c_126 => ?_) (fun c_126 => ?_)
            · have hk8 : k = 8 := Nat.le_antisymm h8 (nb_ge (n := 8) hk c_126 (by decide) (z_31 h8))
              subst hk8
              have hI := hI.soft (K' := (kR D 5 8 (fun j b => b = ro j))) h_places kRk_full
              generalize hE_G297 : gw_up Gm q85 (kR D 5 8 (fun j b => b = ro j)) = G297 at hI
              have hG298 : G297 a = some (kx (.inr (5, [.ref q1, .int 0, .ref q17, .ref q46, .ref q85, .ref q112, .ref q166, .ref q230]))) := by rw [← hE_G297, gw_up_n hn90]; exact h_a
              have hG299 : G297 q17 = some (kx (.inr (3, [.ref q27, .int 0, .int 0]))) := by rw [← hE_G297, gw_up_n hn94]; exact h_fed
              have hG300 : G297 q27 = some (kA D 1 200 tT) := by rw [← hE_G297, gw_up_n hn96]; exact h_fb
              have hG301 : G297 q46 = some (kx (.inr (3, [.ref q60, .int 0, .int 0]))) := by rw [← hE_G297, gw_up_n hn98]; exact h_sent
              have hG302 : G297 q60 = some (kA D 1 236 tT) := by rw [← hE_G297, gw_up_n hn100]; exact h_sb
              have hG303 : G297 q166 = some (kx (.inr (3, [.ref q190, .int 0, .int 0]))) := by rw [← hE_G297, gw_up_n hn183.symm]; exact h_gained
              have hG304 : G297 q190 = some (kA D 1 204 tT) := by rw [← hE_G297, gw_up_n hn202.symm]; exact h_gb
              have hG305 : G297 q1 = some (kR D 4 16 (fun j b => b = as j)) := by rw [← hE_G297, gw_up_n hn92]; exact h_arr
              have hG306 : G297 q85 = some (kR D 5 8 (fun j b => b = ro j)) := by rw [← hE_G297]; exact gw_up_s
              have hfx : gw_fr (fun b => b = q85) Gm G297 := by rw [← hE_G297]; exact gw_fr.up rfl
              refine W.widen (k := 107) (n := 13566) (Nat.le_of_ble_eq_true rfl) (Nat.le_of_ble_eq_true rfl) ?_
              exact gw_vret M hr hlo hI d_Gp_init_151 ⟨⟨q1, q17, q46, q85, q112, q166, q230, as, ro, hG298, hG305, hG306, ⟨_, hG299, hG300⟩, ⟨_, hG301, hG302⟩, ⟨_, hG303, hG304⟩, fun j hj => (hAs j hj).mono hfx h_places, fun j hj => (hRo j hj).mono hfx h_places, hNe⟩, gw_fr.fresh hfG hy101 hfx⟩
            · have hlt : k < 8 := nb_lt (n := 8) hk c_126 (by decide) (z_31 h8)
              refine lv_aload_n hx hb d_Gp_init_129 rfl (lv_at hl 1 rfl) ?_
              refine gw_get M hK hI h_a i_Gp rfl 4 (by decide) f_Gp_31 rfl (Pv := fun v => v = .ref q85) (fun x hx => ⟨_, _, hx, rfl, rfl⟩) d_Gp_init_130 (fun v hv => ?_)
              subst hv
              refine lv_iload_n hx hb d_Gp_init_133 rfl (lv_at hl 0 rfl) ?_
              refine gw_new M hK hI (ci := 3) (fs := [.null, .int 0, .int 0]) i_Ro t_Ro tk_Ro q_Gp_19 j_Ro z_Ro rfl (fun j hj => by rcases (show j = 0 ∨ j = 1 ∨ j = 2 by omega) with rfl | rfl | rfl <;> rfl) (z_c2 hlt) (z_s2 hlt) d_Gp_init_134 (fun q307 H hz308 hI => ?_)
              generalize hE_G309 : gw_up Gm q307 (kx (.inr (3, [.null, .int 0, .int 0]))) = G309 at hI
              have hG310 : G309 q307 = some (kx (.inr (3, [.null, .int 0, .int 0]))) := by rw [← hE_G309]; exact gw_up_s
              have hn312 : a ≠ q307 := fun q9 => by have h9 := h_a; rw [q9, hz308] at h9; cases h9
              have hG311 : G309 a = some (kx (.inr (5, [.ref q1, .int 0, .ref q17, .ref q46, .ref q85, .ref q112, .ref q166, .ref q230]))) := by rw [← hE_G309, gw_up_n hn312]; exact h_a
              have hn314 : q17 ≠ q307 := fun q9 => by have h9 := h_fed; rw [q9, hz308] at h9; cases h9
              have hG313 : G309 q17 = some (kx (.inr (3, [.ref q27, .int 0, .int 0]))) := by rw [← hE_G309, gw_up_n hn314]; exact h_fed
              have hn316 : q27 ≠ q307 := fun q9 => by have h9 := h_fb; rw [q9, hz308] at h9; cases h9
              have hG315 : G309 q27 = some (kA D 1 200 tT) := by rw [← hE_G309, gw_up_n hn316]; exact h_fb
              have hn318 : q46 ≠ q307 := fun q9 => by have h9 := h_sent; rw [q9, hz308] at h9; cases h9
              have hG317 : G309 q46 = some (kx (.inr (3, [.ref q60, .int 0, .int 0]))) := by rw [← hE_G309, gw_up_n hn318]; exact h_sent
              have hn320 : q60 ≠ q307 := fun q9 => by have h9 := h_sb; rw [q9, hz308] at h9; cases h9
              have hG319 : G309 q60 = some (kA D 1 236 tT) := by rw [← hE_G309, gw_up_n hn320]; exact h_sb
              have hn322 : q166 ≠ q307 := fun q9 => by have h9 := h_gained; rw [q9, hz308] at h9; cases h9
              have hG321 : G309 q166 = some (kx (.inr (3, [.ref q190, .int 0, .int 0]))) := by rw [← hE_G309, gw_up_n hn322]; exact h_gained
              have hn324 : q190 ≠ q307 := fun q9 => by have h9 := h_gb; rw [q9, hz308] at h9; cases h9
              have hG323 : G309 q190 = some (kA D 1 204 tT) := by rw [← hE_G309, gw_up_n hn324]; exact h_gb
              have hn326 : q1 ≠ q307 := fun q9 => by have h9 := h_arr; rw [q9, hz308] at h9; cases h9
              have hG325 : G309 q1 = some (kR D 4 16 (fun j b => b = as j)) := by rw [← hE_G309, gw_up_n hn326]; exact h_arr
              have hn328 : q85 ≠ q307 := fun q9 => by have h9 := h_places; rw [q9, hz308] at h9; cases h9
              have hG327 : G309 q85 = some (kRk D 5 8 k ro) := by rw [← hE_G309, gw_up_n hn328]; exact h_places
              have hy329 : Gm q307 = none := by
                cases h9 : Gm q307 with
                | none => rfl
                | some K9 => exact absurd (hfk q307 K9 h9 (fun e9 => hn328 e9.symm)) (by rw [hz308]; exact fun h => by cases h)
              have hf330 : gw_fr (fun b => b = q85) Gm G309 := gw_fr.tr hfk (by rw [← hE_G309]; exact gw_fr.new hz308)
              refine lv_dup hx hb d_Gp_init_137 rfl ?_
              refine lv_sipush (v := 236) hx hb d_Gp_init_138 (by decide) ?_
              refine gw_Iv (As := [.int 236]) (rest := [.ref q307, .int y1, .ref q85]) M hK hI (c_Ro_init l q307 236 (by decide) hG310) k_Ro_init m_Gp_21 rfl hl.1 rfl (Nat.le_of_ble_eq_true rfl) ⟨rfl, rfl, ⟨Nat.le_of_ble_eq_true rfl, Nat.le_of_ble_eq_true rfl⟩, ⟨z_c2b hlt, z_s2b hlt⟩⟩ d_Gp_init_141 (fun G336 H locs hw hI => ?_)
              obtain ⟨q331, hz332, hG333, hG334, hfc335⟩ := hw
              have hn337 : a ≠ q331 := fun q9 => by have h9 := hG311; rw [q9, hz332] at h9; cases h9
              have hn338 : q17 ≠ q331 := fun q9 => by have h9 := hG313; rw [q9, hz332] at h9; cases h9
              have hn339 : q27 ≠ q331 := fun q9 => by have h9 := hG315; rw [q9, hz332] at h9; cases h9
              have hn340 : q46 ≠ q331 := fun q9 => by have h9 := hG317; rw [q9, hz332] at h9; cases h9
              have hn341 : q60 ≠ q331 := fun q9 => by have h9 := hG319; rw [q9, hz332] at h9; cases h9
              have hn342 : q166 ≠ q331 := fun q9 => by have h9 := hG321; rw [q9, hz332] at h9; cases h9
              have hn343 : q190 ≠ q331 := fun q9 => by have h9 := hG323; rw [q9, hz332] at h9; cases h9
              have hn344 : q1 ≠ q331 := fun q9 => by have h9 := hG325; rw [q9, hz332] at h9; cases h9
              have hn345 : q85 ≠ q331 := fun q9 => by have h9 := hG327; rw [q9, hz332] at h9; cases h9
              have hn346 : q307 ≠ q331 := fun q9 => by have h9 := hG310; rw [q9, hz332] at h9; cases h9
              have hG347 : G336 a = some (kx (.inr (5, [.ref q1, .int 0, .ref q17, .ref q46, .ref q85, .ref q112, .ref q166, .ref q230]))) := hfc335 a _ hG311 hn312
              have hG348 : G336 q17 = some (kx (.inr (3, [.ref q27, .int 0, .int 0]))) := hfc335 q17 _ hG313 hn314
              have hG349 : G336 q27 = some (kA D 1 200 tT) := hfc335 q27 _ hG315 hn316
              have hG350 : G336 q46 = some (kx (.inr (3, [.ref q60, .int 0, .int 0]))) := hfc335 q46 _ hG317 hn318
              have hG351 : G336 q60 = some (kA D 1 236 tT) := hfc335 q60 _ hG319 hn320
              have hG352 : G336 q166 = some (kx (.inr (3, [.ref q190, .int 0, .int 0]))) := hfc335 q166 _ hG321 hn322
              have hG353 : G336 q190 = some (kA D 1 204 tT) := hfc335 q190 _ hG323 hn324
              have hG354 : G336 q1 = some (kR D 4 16 (fun j b => b = as j)) := hfc335 q1 _ hG325 hn326
              have hG355 : G336 q85 = some (kRk D 5 8 k ro) := hfc335 q85 _ hG327 hn328
              have hy356 : Gm q331 = none := by
                cases h9 : Gm q331 with
                | none => rfl
                | some K9 => exact absurd (hf330 q331 K9 h9 (fun e9 => hn345 e9.symm)) (by rw [hz332]; exact fun h => by cases h)
              have hf357 : gw_fr (fun b => b = q85) Gm G336 := gw_fr.fresh hf330 hy329 hfc335
              obtain ⟨-, x9, ⟨f9, hf9, rfl⟩, hat⟩ := hI.1.2.2 q85 _ hG355
              refine gw_aast M hK hI 5 3 rfl rfl hG355 hat hG333 (fun x hx => ⟨_, hx⟩) (nb_in hk hlt) (kRk D 5 8 (k + 1) (va_up ro k q307)) ⟨_, kRk_up hf9 hk (z_31b hlt), rfl⟩ d_Gp_init_144 (fun H locs hI => ?_)
              generalize hE_G358 : gw_up G336 q85 (kRk D 5 8 (k + 1) (va_up ro k q307)) = G358 at hI
              have hG359 : G358 a = some (kx (.inr (5, [.ref q1, .int 0, .ref q17, .ref q46, .ref q85, .ref q112, .ref q166, .ref q230]))) := by rw [← hE_G358, gw_up_n hn90]; exact hG347
              have hG360 : G358 q17 = some (kx (.inr (3, [.ref q27, .int 0, .int 0]))) := by rw [← hE_G358, gw_up_n hn94]; exact hG348
              have hG361 : G358 q27 = some (kA D 1 200 tT) := by rw [← hE_G358, gw_up_n hn96]; exact hG349
              have hG362 : G358 q46 = some (kx (.inr (3, [.ref q60, .int 0, .int 0]))) := by rw [← hE_G358, gw_up_n hn98]; exact hG350
              have hG363 : G358 q60 = some (kA D 1 236 tT) := by rw [← hE_G358, gw_up_n hn100]; exact hG351
              have hG364 : G358 q166 = some (kx (.inr (3, [.ref q190, .int 0, .int 0]))) := by rw [← hE_G358, gw_up_n hn183.symm]; exact hG352
              have hG365 : G358 q190 = some (kA D 1 204 tT) := by rw [← hE_G358, gw_up_n hn202.symm]; exact hG353
              have hG366 : G358 q1 = some (kR D 4 16 (fun j b => b = as j)) := by rw [← hE_G358, gw_up_n hn92]; exact hG354
              have hG367 : G358 q85 = some (kRk D 5 8 (k + 1) (va_up ro k q307)) := by rw [← hE_G358]; exact gw_up_s
              have hG368 : G358 q307 = some (kx (.inr (3, [.ref q331, .int 0, .int 0]))) := by rw [← hE_G358, gw_up_n hn328.symm]; exact hG333
              have hG369 : G358 q331 = some (kA D 1 236 tT) := by rw [← hE_G358, gw_up_n hn345.symm]; exact hG334
              have hf370 : gw_fr (fun b => b = q85) Gm G358 := gw_fr.tr hf357 (by rw [← hE_G358]; exact gw_fr.up rfl)
              obtain ⟨x371, e_x371⟩ : ∃ ww9 : Int32, ww9 = y1 + 1 := ⟨_, rfl⟩
              refine lv_iinc (v := x371) (lv' := [(1, .int x371), (0, .ref a)]) hx hb d_Gp_init_145 hl (k := 0) rfl (by rw [e_x371]; rfl) (by decide) rfl (fun ls hl => ?_)
              refine lv_goto (tgt := 123) hx hb d_Gp_init_148 (by decide) ?_
              have hRn372 : ∀ j, j < k + 1 → isRo D G358 236 (va_up ro k q307 j) := by
                intro j hj
                by_cases h9 : j = k
                · subst h9; simp only [va_up, if_true]; exact ⟨q331, hG368, hG369⟩
                · simp only [va_up, h9, if_false]; exact (hRo j (z_j hj h9)).mono hf370 h_places
              have hRm373 : ∀ j, j < k + 1 → q46 ≠ va_up ro k q307 j := by
                intro j hj
                by_cases h9 : j = k
                · subst h9; simp only [va_up, if_true]; exact hn318
                · simp only [va_up, h9, if_false]; exact hNe j (z_j hj h9)
              refine W.widen (k := (91 + 2 * (k + 1))) (n := (5542 + 1003 * (k + 1))) (z_w 91 2 k 1 1 (by decide)) (z_w 5542 1003 k 3 1000 (by decide)) ?_
              exact ih_123 (k + 1) x371 G358 (va_up ro k q307) _ _ _ hlt (nb_s e_x371 hk) hG359 hG360 hG361 hG362 hG363 hG364 hG365 hG366 hG367 (fun j hj => (hAs j hj).mono hf370 h_places) hRn372 hRm373 (gw_fr.fresh hfG hy101 hf370) (z_m hm_123 hlt) hI (lv_sub hl [0, 1] rfl)
        refine W.widen (k := (91 + 2 * 0)) (n := (5542 + 1003 * 0)) (Nat.le_of_ble_eq_true rfl) (Nat.le_of_ble_eq_true rfl) ?_
        exact L_123 _ 0 0 G287 (fun _ => 0) _ _ _ (Nat.zero_le _) rfl hG288 hG289 hG290 hG291 hG292 hG294 hG295 hG296 hG293 hAs (fun j hj => absurd hj (Nat.not_lt_zero _)) (fun j hj => absurd hj (Nat.not_lt_zero _)) hfG (Nat.lt_succ_self _) hI (lv_sub hl [0, 1] rfl)
      · have hlt : k < 16 := nb_lt (n := 16) hk c_99 (by decide) (z_31 h16)
        refine lv_aload_n hx hb d_Gp_init_102 rfl (lv_at hl 1 rfl) ?_
        refine gw_get M hK hI h_a i_Gp rfl 0 (by decide) f_Gp_11 rfl (Pv := fun v => v = .ref q1) (fun x hx => ⟨_, _, hx, rfl, rfl⟩) d_Gp_init_103 (fun v hv => ?_)
        subst hv
        refine lv_iload_n hx hb d_Gp_init_106 rfl (lv_at hl 0 rfl) ?_
        refine gw_new M hK hI (ci := 0) (fs := [.null, .null, .int 0, .int 0, .int 0, .long 0, .long 0, .long 0, .int 0, .long 0, .long 0, .long 0]) i_As t_As tk_As q_Gp_9 j_As z_As rfl (fun j hj => by rcases (show j = 0 ∨ j = 1 ∨ j = 2 ∨ j = 3 ∨ j = 4 ∨ j = 5 ∨ j = 6 ∨ j = 7 ∨ j = 8 ∨ j = 9 ∨ j = 10 ∨ j = 11 by omega) with rfl | rfl | rfl | rfl | rfl | rfl | rfl | rfl | rfl | rfl | rfl | rfl <;> rfl) (z_c1 hlt) (z_s1 hlt) d_Gp_init_107 (fun q374 H hz375 hI => ?_)
        generalize hE_G376 : gw_up Gk q374 (kx (.inr (0, [.null, .null, .int 0, .int 0, .int 0, .long 0, .long 0, .long 0, .int 0, .long 0, .long 0, .long 0]))) = G376 at hI
        have hG377 : G376 q374 = some (kx (.inr (0, [.null, .null, .int 0, .int 0, .int 0, .long 0, .long 0, .long 0, .int 0, .long 0, .long 0, .long 0]))) := by rw [← hE_G376]; exact gw_up_s
        have hn379 : a ≠ q374 := fun q9 => by have h9 := h_a; rw [q9, hz375] at h9; cases h9
        have hG378 : G376 a = some (kx (.inr (5, [.ref q1, .int 0, .ref q17, .ref q46, .ref q85, .ref q112, .ref q166, .ref q230]))) := by rw [← hE_G376, gw_up_n hn379]; exact h_a
        have hn381 : q17 ≠ q374 := fun q9 => by have h9 := h_fed; rw [q9, hz375] at h9; cases h9
        have hG380 : G376 q17 = some (kx (.inr (3, [.ref q27, .int 0, .int 0]))) := by rw [← hE_G376, gw_up_n hn381]; exact h_fed
        have hn383 : q27 ≠ q374 := fun q9 => by have h9 := h_fb; rw [q9, hz375] at h9; cases h9
        have hG382 : G376 q27 = some (kA D 1 200 tT) := by rw [← hE_G376, gw_up_n hn383]; exact h_fb
        have hn385 : q46 ≠ q374 := fun q9 => by have h9 := h_sent; rw [q9, hz375] at h9; cases h9
        have hG384 : G376 q46 = some (kx (.inr (3, [.ref q60, .int 0, .int 0]))) := by rw [← hE_G376, gw_up_n hn385]; exact h_sent
        have hn387 : q60 ≠ q374 := fun q9 => by have h9 := h_sb; rw [q9, hz375] at h9; cases h9
        have hG386 : G376 q60 = some (kA D 1 236 tT) := by rw [← hE_G376, gw_up_n hn387]; exact h_sb
        have hn389 : q85 ≠ q374 := fun q9 => by have h9 := h_places; rw [q9, hz375] at h9; cases h9
        have hG388 : G376 q85 = some (kRk D 5 8 0 (fun _ => 0)) := by rw [← hE_G376, gw_up_n hn389]; exact h_places
        have hn391 : q166 ≠ q374 := fun q9 => by have h9 := h_gained; rw [q9, hz375] at h9; cases h9
        have hG390 : G376 q166 = some (kx (.inr (3, [.ref q190, .int 0, .int 0]))) := by rw [← hE_G376, gw_up_n hn391]; exact h_gained
        have hn393 : q190 ≠ q374 := fun q9 => by have h9 := h_gb; rw [q9, hz375] at h9; cases h9
        have hG392 : G376 q190 = some (kA D 1 204 tT) := by rw [← hE_G376, gw_up_n hn393]; exact h_gb
        have hn395 : q1 ≠ q374 := fun q9 => by have h9 := h_arr; rw [q9, hz375] at h9; cases h9
        have hG394 : G376 q1 = some (kRk D 4 16 k as) := by rw [← hE_G376, gw_up_n hn395]; exact h_arr
        have hy396 : Gk q374 = none := by
          cases h9 : Gk q374 with
          | none => rfl
          | some K9 => exact absurd (hfk q374 K9 h9 (fun e9 => hn395 e9.symm)) (by rw [hz375]; exact fun h => by cases h)
        have hf397 : gw_fr (fun b => b = q1) Gk G376 := gw_fr.tr hfk (by rw [← hE_G376]; exact gw_fr.new hz375)
        refine lv_dup hx hb d_Gp_init_110 rfl ?_
        refine gw_Nv (As := []) (rest := [.ref q374, .int y1, .ref q1]) M hK hI (c_As_init l q374 hG377) k_As_init hK.2.2.2.2.1 rfl hl.1 rfl (Nat.le_of_ble_eq_true rfl) ⟨rfl, rfl, ⟨Nat.le_of_ble_eq_true rfl, Nat.le_of_ble_eq_true rfl⟩, ⟨z_c1b hlt, z_s1b hlt⟩⟩ d_Gp_init_111 (fun G412 H locs hw hI => ?_)
        obtain ⟨q398, q399, q400, q401, hz402, hz403, hz404, hz405, hG406, hG407, hG408, hG409, hG410, hfc411⟩ := hw
        have hn413 : a ≠ q398 := fun q9 => by have h9 := hG378; rw [q9, hz402] at h9; cases h9
        have hn414 : q17 ≠ q398 := fun q9 => by have h9 := hG380; rw [q9, hz402] at h9; cases h9
        have hn415 : q27 ≠ q398 := fun q9 => by have h9 := hG382; rw [q9, hz402] at h9; cases h9
        have hn416 : q46 ≠ q398 := fun q9 => by have h9 := hG384; rw [q9, hz402] at h9; cases h9
        have hn417 : q60 ≠ q398 := fun q9 => by have h9 := hG386; rw [q9, hz402] at h9; cases h9
        have hn418 : q85 ≠ q398 := fun q9 => by have h9 := hG388; rw [q9, hz402] at h9; cases h9
        have hn419 : q166 ≠ q398 := fun q9 => by have h9 := hG390; rw [q9, hz402] at h9; cases h9
        have hn420 : q190 ≠ q398 := fun q9 => by have h9 := hG392; rw [q9, hz402] at h9; cases h9
        have hn421 : q1 ≠ q398 := fun q9 => by have h9 := hG394; rw [q9, hz402] at h9; cases h9
        have hn422 : q374 ≠ q398 := fun q9 => by have h9 := hG377; rw [q9, hz402] at h9; cases h9
        have hn423 : a ≠ q399 := fun q9 => by have h9 := hG378; rw [q9, hz403] at h9; cases h9
        have hn424 : q17 ≠ q399 := fun q9 => by have h9 := hG380; rw [q9, hz403] at h9; cases h9
        have hn425 : q27 ≠ q399 := fun q9 => by have h9 := hG382; rw [q9, hz403] at h9; cases h9
        have hn426 : q46 ≠ q399 := fun q9 => by have h9 := hG384; rw [q9, hz403] at h9; cases h9
        have hn427 : q60 ≠ q399 := fun q9 => by have h9 := hG386; rw [q9, hz403] at h9; cases h9
        have hn428 : q85 ≠ q399 := fun q9 => by have h9 := hG388; rw [q9, hz403] at h9; cases h9
        have hn429 : q166 ≠ q399 := fun q9 => by have h9 := hG390; rw [q9, hz403] at h9; cases h9
        have hn430 : q190 ≠ q399 := fun q9 => by have h9 := hG392; rw [q9, hz403] at h9; cases h9
        have hn431 : q1 ≠ q399 := fun q9 => by have h9 := hG394; rw [q9, hz403] at h9; cases h9
        have hn432 : q374 ≠ q399 := fun q9 => by have h9 := hG377; rw [q9, hz403] at h9; cases h9
        have hn433 : a ≠ q400 := fun q9 => by have h9 := hG378; rw [q9, hz404] at h9; cases h9
        have hn434 : q17 ≠ q400 := fun q9 => by have h9 := hG380; rw [q9, hz404] at h9; cases h9
        have hn435 : q27 ≠ q400 := fun q9 => by have h9 := hG382; rw [q9, hz404] at h9; cases h9
        have hn436 : q46 ≠ q400 := fun q9 => by have h9 := hG384; rw [q9, hz404] at h9; cases h9
        have hn437 : q60 ≠ q400 := fun q9 => by have h9 := hG386; rw [q9, hz404] at h9; cases h9
        have hn438 : q85 ≠ q400 := fun q9 => by have h9 := hG388; rw [q9, hz404] at h9; cases h9
        have hn439 : q166 ≠ q400 := fun q9 => by have h9 := hG390; rw [q9, hz404] at h9; cases h9
        have hn440 : q190 ≠ q400 := fun q9 => by have h9 := hG392; rw [q9, hz404] at h9; cases h9
        have hn441 : q1 ≠ q400 := fun q9 => by have h9 := hG394; rw [q9, hz404] at h9; cases h9
        have hn442 : q374 ≠ q400 := fun q9 => by have h9 := hG377; rw [q9, hz404] at h9; cases h9
        have hn443 : a ≠ q401 := fun q9 => by have h9 := hG378; rw [q9, hz405] at h9; cases h9
        have hn444 : q17 ≠ q401 := fun q9 => by have h9 := hG380; rw [q9, hz405] at h9; cases h9
        have hn445 : q27 ≠ q401 := fun q9 => by have h9 := hG382; rw [q9, hz405] at h9; cases h9
        have hn446 : q46 ≠ q401 := fun q9 => by have h9 := hG384; rw [q9, hz405] at h9; cases h9
        have hn447 : q60 ≠ q401 := fun q9 => by have h9 := hG386; rw [q9, hz405] at h9; cases h9
        have hn448 : q85 ≠ q401 := fun q9 => by have h9 := hG388; rw [q9, hz405] at h9; cases h9
        have hn449 : q166 ≠ q401 := fun q9 => by have h9 := hG390; rw [q9, hz405] at h9; cases h9
        have hn450 : q190 ≠ q401 := fun q9 => by have h9 := hG392; rw [q9, hz405] at h9; cases h9
        have hn451 : q1 ≠ q401 := fun q9 => by have h9 := hG394; rw [q9, hz405] at h9; cases h9
        have hn452 : q374 ≠ q401 := fun q9 => by have h9 := hG377; rw [q9, hz405] at h9; cases h9
        have hG453 : G412 a = some (kx (.inr (5, [.ref q1, .int 0, .ref q17, .ref q46, .ref q85, .ref q112, .ref q166, .ref q230]))) := hfc411 a _ hG378 hn379
        have hG454 : G412 q17 = some (kx (.inr (3, [.ref q27, .int 0, .int 0]))) := hfc411 q17 _ hG380 hn381
        have hG455 : G412 q27 = some (kA D 1 200 tT) := hfc411 q27 _ hG382 hn383
        have hG456 : G412 q46 = some (kx (.inr (3, [.ref q60, .int 0, .int 0]))) := hfc411 q46 _ hG384 hn385
        have hG457 : G412 q60 = some (kA D 1 236 tT) := hfc411 q60 _ hG386 hn387
        have hG458 : G412 q85 = some (kRk D 5 8 0 (fun _ => 0)) := hfc411 q85 _ hG388 hn389
        have hG459 : G412 q166 = some (kx (.inr (3, [.ref q190, .int 0, .int 0]))) := hfc411 q166 _ hG390 hn391
        have hG460 : G412 q190 = some (kA D 1 204 tT) := hfc411 q190 _ hG392 hn393
        have hG461 : G412 q1 = some (kRk D 4 16 k as) := hfc411 q1 _ hG394 hn395
        have hy462 : Gk q398 = none := by
          cases h9 : Gk q398 with
          | none => rfl
          | some K9 => exact absurd (hf397 q398 K9 h9 (fun e9 => hn421 e9.symm)) (by rw [hz402]; exact fun h => by cases h)
        have hy463 : Gk q399 = none := by
          cases h9 : Gk q399 with
          | none => rfl
          | some K9 => exact absurd (hf397 q399 K9 h9 (fun e9 => hn431 e9.symm)) (by rw [hz403]; exact fun h => by cases h)
        have hy464 : Gk q400 = none := by
          cases h9 : Gk q400 with
          | none => rfl
          | some K9 => exact absurd (hf397 q400 K9 h9 (fun e9 => hn441 e9.symm)) (by rw [hz404]; exact fun h => by cases h)
        have hy465 : Gk q401 = none := by
          cases h9 : Gk q401 with
          | none => rfl
          | some K9 => exact absurd (hf397 q401 K9 h9 (fun e9 => hn451 e9.symm)) (by rw [hz405]; exact fun h => by cases h)
        have hf466 : gw_fr (fun b => b = q1) Gk G412 := gw_fr.fresh hf397 hy396 hfc411
        have hn467 : q398 ≠ q399 := gw_ne (x := (.inr (2, [.ref q399, .long 0, .long 0]))) hG407 hG408 rfl (fun q => by obtain ⟨f, -, q⟩ := q; cases q)
        have hn468 : q398 ≠ q400 := gw_ne (x := (.inr (2, [.ref q399, .long 0, .long 0]))) hG407 hG409 rfl (fun q => by cases q)
        have hn469 : q398 ≠ q401 := gw_ne (x := (.inr (2, [.ref q399, .long 0, .long 0]))) hG407 hG410 rfl (fun q => by obtain ⟨f, -, q⟩ := q; cases q)
        have hn470 : q399 ≠ q400 := gw_ne (x := (.inl (D.2 0, 44, .inl (fun _ => 0)))) hG408 hG409 ⟨_, fun _ _ => trivial, rfl⟩ (fun q => by cases q)
        have hn471 : q399 ≠ q401 := gw_ne (x := (.inl (D.2 0, 44, .inl (fun _ => 0)))) hG408 hG410 ⟨_, fun _ _ => trivial, rfl⟩ (fun q => by obtain ⟨f, -, q⟩ := q; have h9 := congrArg (fun z => z.2.1) (Sum.inl.inj q); cases h9)
        have hn472 : q400 ≠ q401 := gw_ne (x := (.inr (4, [.ref q401, .int 1024, .long 0]))) hG409 hG410 rfl (fun q => by obtain ⟨f, -, q⟩ := q; cases q)
        have hI := hI.soft (K' := (kAs q398 q400)) hG406 (fun e h => ⟨0, 0, 0, 0, 0, 0, 0, 0, 0, 0, Or.inl rfl, h⟩)
        generalize hE_G473 : gw_up G412 q374 (kAs q398 q400) = G473 at hI
        have hG474 : G473 a = some (kx (.inr (5, [.ref q1, .int 0, .ref q17, .ref q46, .ref q85, .ref q112, .ref q166, .ref q230]))) := by rw [← hE_G473, gw_up_n hn379]; exact hG453
        have hG475 : G473 q17 = some (kx (.inr (3, [.ref q27, .int 0, .int 0]))) := by rw [← hE_G473, gw_up_n hn381]; exact hG454
        have hG476 : G473 q27 = some (kA D 1 200 tT) := by rw [← hE_G473, gw_up_n hn383]; exact hG455
        have hG477 : G473 q46 = some (kx (.inr (3, [.ref q60, .int 0, .int 0]))) := by rw [← hE_G473, gw_up_n hn385]; exact hG456
        have hG478 : G473 q60 = some (kA D 1 236 tT) := by rw [← hE_G473, gw_up_n hn387]; exact hG457
        have hG479 : G473 q85 = some (kRk D 5 8 0 (fun _ => 0)) := by rw [← hE_G473, gw_up_n hn389]; exact hG458
        have hG480 : G473 q166 = some (kx (.inr (3, [.ref q190, .int 0, .int 0]))) := by rw [← hE_G473, gw_up_n hn391]; exact hG459
        have hG481 : G473 q190 = some (kA D 1 204 tT) := by rw [← hE_G473, gw_up_n hn393]; exact hG460
        have hG482 : G473 q1 = some (kRk D 4 16 k as) := by rw [← hE_G473, gw_up_n hn395]; exact hG461
        have hG483 : G473 q374 = some (kAs q398 q400) := by rw [← hE_G473]; exact gw_up_s
        have hG484 : G473 q398 = some (kx (.inr (2, [.ref q399, .long 0, .long 0]))) := by rw [← hE_G473, gw_up_n hn422.symm]; exact hG407
        have hG485 : G473 q399 = some (kA D 0 44 tT) := by rw [← hE_G473, gw_up_n hn432.symm]; exact hG408
        have hG486 : G473 q400 = some (kx (.inr (4, [.ref q401, .int 1024, .long 0]))) := by rw [← hE_G473, gw_up_n hn442.symm]; exact hG409
        have hG487 : G473 q401 = some (kA D 0 32 tT) := by rw [← hE_G473, gw_up_n hn452.symm]; exact hG410
        have hf488 : gw_fr (fun b => b = q1) Gk G473 := gw_fr.fresh hf466 hy396 (by rw [← hE_G473]; exact gw_fr.up rfl)
        have hI := hI.soft (K' := (kCi q399)) hG484 (fun e h => ⟨0, 0, h⟩)
        generalize hE_G489 : gw_up G473 q398 (kCi q399) = G489 at hI
        have hG490 : G489 a = some (kx (.inr (5, [.ref q1, .int 0, .ref q17, .ref q46, .ref q85, .ref q112, .ref q166, .ref q230]))) := by rw [← hE_G489, gw_up_n hn413]; exact hG474
        have hG491 : G489 q17 = some (kx (.inr (3, [.ref q27, .int 0, .int 0]))) := by rw [← hE_G489, gw_up_n hn414]; exact hG475
        have hG492 : G489 q27 = some (kA D 1 200 tT) := by rw [← hE_G489, gw_up_n hn415]; exact hG476
        have hG493 : G489 q46 = some (kx (.inr (3, [.ref q60, .int 0, .int 0]))) := by rw [← hE_G489, gw_up_n hn416]; exact hG477
        have hG494 : G489 q60 = some (kA D 1 236 tT) := by rw [← hE_G489, gw_up_n hn417]; exact hG478
        have hG495 : G489 q85 = some (kRk D 5 8 0 (fun _ => 0)) := by rw [← hE_G489, gw_up_n hn418]; exact hG479
        have hG496 : G489 q166 = some (kx (.inr (3, [.ref q190, .int 0, .int 0]))) := by rw [← hE_G489, gw_up_n hn419]; exact hG480
        have hG497 : G489 q190 = some (kA D 1 204 tT) := by rw [← hE_G489, gw_up_n hn420]; exact hG481
        have hG498 : G489 q1 = some (kRk D 4 16 k as) := by rw [← hE_G489, gw_up_n hn421]; exact hG482
        have hG499 : G489 q374 = some (kAs q398 q400) := by rw [← hE_G489, gw_up_n hn422]; exact hG483
        have hG500 : G489 q398 = some (kCi q399) := by rw [← hE_G489]; exact gw_up_s
        have hG501 : G489 q399 = some (kA D 0 44 tT) := by rw [← hE_G489, gw_up_n hn467.symm]; exact hG485
        have hG502 : G489 q400 = some (kx (.inr (4, [.ref q401, .int 1024, .long 0]))) := by rw [← hE_G489, gw_up_n hn468.symm]; exact hG486
        have hG503 : G489 q401 = some (kA D 0 32 tT) := by rw [← hE_G489, gw_up_n hn469.symm]; exact hG487
        have hf504 : gw_fr (fun b => b = q1) Gk G489 := gw_fr.fresh hf488 hy462 (by rw [← hE_G489]; exact gw_fr.up rfl)
        have hI := hI.soft (K' := (kWi q401)) hG502 (fun e h => ⟨1024, 0, h⟩)
        generalize hE_G505 : gw_up G489 q400 (kWi q401) = G505 at hI
        have hG506 : G505 a = some (kx (.inr (5, [.ref q1, .int 0, .ref q17, .ref q46, .ref q85, .ref q112, .ref q166, .ref q230]))) := by rw [← hE_G505, gw_up_n hn433]; exact hG490
        have hG507 : G505 q17 = some (kx (.inr (3, [.ref q27, .int 0, .int 0]))) := by rw [← hE_G505, gw_up_n hn434]; exact hG491
        have hG508 : G505 q27 = some (kA D 1 200 tT) := by rw [← hE_G505, gw_up_n hn435]; exact hG492
        have hG509 : G505 q46 = some (kx (.inr (3, [.ref q60, .int 0, .int 0]))) := by rw [← hE_G505, gw_up_n hn436]; exact hG493
        have hG510 : G505 q60 = some (kA D 1 236 tT) := by rw [← hE_G505, gw_up_n hn437]; exact hG494
        have hG511 : G505 q85 = some (kRk D 5 8 0 (fun _ => 0)) := by rw [← hE_G505, gw_up_n hn438]; exact hG495
        have hG512 : G505 q166 = some (kx (.inr (3, [.ref q190, .int 0, .int 0]))) := by rw [← hE_G505, gw_up_n hn439]; exact hG496
        have hG513 : G505 q190 = some (kA D 1 204 tT) := by rw [← hE_G505, gw_up_n hn440]; exact hG497
        have hG514 : G505 q1 = some (kRk D 4 16 k as) := by rw [← hE_G505, gw_up_n hn441]; exact hG498
        have hG515 : G505 q374 = some (kAs q398 q400) := by rw [← hE_G505, gw_up_n hn442]; exact hG499
        have hG516 : G505 q398 = some (kCi q399) := by rw [← hE_G505, gw_up_n hn468]; exact hG500
        have hG517 : G505 q399 = some (kA D 0 44 tT) := by rw [← hE_G505, gw_up_n hn470]; exact hG501
        have hG518 : G505 q400 = some (kWi q401) := by rw [← hE_G505]; exact gw_up_s
        have hG519 : G505 q401 = some (kA D 0 32 tT) := by rw [← hE_G505, gw_up_n hn472.symm]; exact hG503
        have hf520 : gw_fr (fun b => b = q1) Gk G505 := gw_fr.fresh hf504 hy464 (by rw [← hE_G505]; exact gw_fr.up rfl)
        obtain ⟨-, x9, ⟨f9, hf9, rfl⟩, hat⟩ := hI.1.2.2 q1 _ hG514
        refine gw_aast M hK hI 4 0 rfl rfl hG514 hat hG515 (fun x hx => by obtain ⟨u2, u3, u4, u5, u6, u7, u8, u9, v1, v2, h_u4, q9⟩ := hx; exact ⟨_, q9⟩) (nb_in hk hlt) (kRk D 4 16 (k + 1) (va_up as k q374)) ⟨_, kRk_up hf9 hk (z_31b hlt), rfl⟩ d_Gp_init_114 (fun H locs hI => ?_)
        generalize hE_G521 : gw_up G505 q1 (kRk D 4 16 (k + 1) (va_up as k q374)) = G521 at hI
        have hG522 : G521 a = some (kx (.inr (5, [.ref q1, .int 0, .ref q17, .ref q46, .ref q85, .ref q112, .ref q166, .ref q230]))) := by rw [← hE_G521, gw_up_n hn6]; exact hG506
        have hG523 : G521 q17 = some (kx (.inr (3, [.ref q27, .int 0, .int 0]))) := by rw [← hE_G521, gw_up_n hn24.symm]; exact hG507
        have hG524 : G521 q27 = some (kA D 1 200 tT) := by rw [← hE_G521, gw_up_n hn34.symm]; exact hG508
        have hG525 : G521 q46 = some (kx (.inr (3, [.ref q60, .int 0, .int 0]))) := by rw [← hE_G521, gw_up_n hn53.symm]; exact hG509
        have hG526 : G521 q60 = some (kA D 1 236 tT) := by rw [← hE_G521, gw_up_n hn67.symm]; exact hG510
        have hG527 : G521 q85 = some (kRk D 5 8 0 (fun _ => 0)) := by rw [← hE_G521, gw_up_n hn92.symm]; exact hG511
        have hG528 : G521 q166 = some (kx (.inr (3, [.ref q190, .int 0, .int 0]))) := by rw [← hE_G521, gw_up_n hn173.symm]; exact hG512
        have hG529 : G521 q190 = some (kA D 1 204 tT) := by rw [← hE_G521, gw_up_n hn197.symm]; exact hG513
        have hG530 : G521 q1 = some (kRk D 4 16 (k + 1) (va_up as k q374)) := by rw [← hE_G521]; exact gw_up_s
        have hG531 : G521 q374 = some (kAs q398 q400) := by rw [← hE_G521, gw_up_n hn395.symm]; exact hG515
        have hG532 : G521 q398 = some (kCi q399) := by rw [← hE_G521, gw_up_n hn421.symm]; exact hG516
        have hG533 : G521 q399 = some (kA D 0 44 tT) := by rw [← hE_G521, gw_up_n hn431.symm]; exact hG517
        have hG534 : G521 q400 = some (kWi q401) := by rw [← hE_G521, gw_up_n hn441.symm]; exact hG518
        have hG535 : G521 q401 = some (kA D 0 32 tT) := by rw [← hE_G521, gw_up_n hn451.symm]; exact hG519
        have hf536 : gw_fr (fun b => b = q1) Gk G521 := gw_fr.tr hf520 (by rw [← hE_G521]; exact gw_fr.up rfl)
        obtain ⟨x537, e_x537⟩ : ∃ ww9 : Int32, ww9 = y1 + 1 := ⟨_, rfl⟩
        refine lv_iinc (v := x537) (lv' := [(1, .int x537), (0, .ref a)]) hx hb d_Gp_init_115 hl (k := 0) rfl (by rw [e_x537]; rfl) (by decide) rfl (fun ls hl => ?_)
        refine lv_goto (tgt := 96) hx hb d_Gp_init_118 (by decide) ?_
        have hAn538 : ∀ j, j < k + 1 → isAs D G521 (va_up as k q374 j) := by
          intro j hj
          by_cases h9 : j = k
          · subst h9; simp only [va_up, if_true]; exact ⟨q398, q399, q400, q401, hG531, hG532, hG533, hG534, hG535⟩
          · simp only [va_up, h9, if_false]; exact (hAs j (z_j hj h9)).mono hf536 h_arr
        refine W.widen (k := (11 + 5 * (k + 1))) (n := (4038 + 94 * (k + 1))) (z_w 11 5 k 1 4 (by decide)) (z_w 4038 94 k 12 82 (by decide)) ?_
        exact ih_96 (k + 1) x537 G521 (va_up as k q374) _ _ _ hlt (nb_s e_x537 hk) hG522 hG523 hG524 hG525 hG526 hG527 hG528 hG529 hG530 hAn538 (gw_fr.fresh hfG hy7 hf536) (z_m hm_96 hlt) hI (lv_sub hl [0, 1] rfl)
  refine W.widen (k := (11 + 5 * 0)) (n := (4038 + 94 * 0)) (Nat.le_of_ble_eq_true rfl) (Nat.le_of_ble_eq_true rfl) ?_
  exact L_96 _ 0 0 G273 (fun _ => 0) _ _ _ (Nat.zero_le _) rfl hG274 hG276 hG277 hG278 hG279 hG280 hG283 hG284 hG275 (fun j hj => absurd hj (Nat.not_lt_zero _)) hf286 (Nat.lt_succ_self _) hI (lv_sub hl [0, 1] rfl)
