abbrev rm_La_sealX : Room := { frames := 8, cells := 1, slots := 6, locals := 153 }
set_option maxHeartbeats 4000000 in
set_option maxRecDepth 100000 in
theorem c_La_sealX (l : Launch) (htr : l.stackTraces = false) {D : gw_D} {Hs : Heap} {G : gw_G} (A : Nat → Nat → Nat) (pm : Nat → Nat) (cnt fd : Nat) (tt xt li : Nat → Int32) (la : Nat → Int64) (hC : cls D G A pm cnt fd tt xt li la) (n1 n2 : Int32) (ou : Nat) (P : Int64 → Prop) (hU : G ou = some (kL D 1 P))  : Met l y_La_seal (Cond.codeWith y_La_seal b_La_seal 5 (some .int) [(0, 10, 13, 19), (0, 10, 17, 13)] :: tb) rm_La_sealX (gw_Pc D Hs G [.ref (A 0 0), .int n1, .int n2, .ref ou]) (gw_Qi D Hs (fun r G1 => ∃ pm' cnt' fd' tt' xt' li' la' P', cls D G1 A pm' cnt' fd' tt' xt' li' la' ∧ G1 ou = some (kL D 1 P') ∧ gw_fr (ownU A ou) G G1 ∧ (∃ kp, isPl (fun j => tt (pm j)) cnt n1 kp ∧ pm' = pm ∧ cnt' = cnt ∧ fd' = fd ∧ tt' = tt ∧ xt' = xt ∧ ((¬ (kp < cnt ∧ tt (pm kp) = n1) ∧ r = 1 ∧ li' = li ∧ la' = la) ∨ ((kp < cnt ∧ tt (pm kp) = n1) ∧ ¬ okB n2 ∧ r = 2 ∧ li' = li ∧ la' = la) ∨ ((kp < cnt ∧ tt (pm kp) = n1) ∧ okB n2 ∧ r = 0 ∧ (((gre (xt (pm kp)) ≤ la (pm kp) ∨ li (pm kp) < nI fd) ∧ li' = li ∧ la' = la) ∨ (¬ (gre (xt (pm kp)) ≤ la (pm kp) ∨ li (pm kp) < nI fd) ∧ li' = fup li (pm kp) (li (pm kp) - nI fd) ∧ la' = fup la (pm kp) (la (pm kp) + 1)))))) ∧ (∀ kp, isPl (fun j => tt (pm j)) cnt n1 kp → (kp < cnt ∧ tt (pm kp) = n1) → okB n2 → ((gre (xt (pm kp)) ≤ la (pm kp) ∨ li (pm kp) < nI fd) → ∀ z, P' z → z = (-1 : Int32).toInt64) ∧ (¬ (gre (xt (pm kp)) ≤ la (pm kp) ∨ li (pm kp) < nI fd) → ∀ z, P' z → z = (nI (fd + 34 + (4 - (fd + 2) % 4) % 4)).toInt64)))) 1 6 (gw_A Hs) := by
  refine gw_metW (by decide) (Nat.le_of_ble_eq_true rfl) ?_
  intro p e s m args below meth c M hK hr hlo htab hI ls hl
  have hx := M.1
  have hb := M.2.1
  have hl : lv_has ls 5 [(0, .ref (A 0 0)), (1, .int n1), (2, .int n2), (3, .ref ou)] := hl
  have hC0 := hC
  have hUo := hU
  refine lv_aload_n hx hb d_La_seal_0 rfl (lv_at hl 3 rfl) ?_
  refine lv_iconst (v := 0) hx hb d_La_seal_1 (by decide) ?_
  refine lv_aload_n hx hb d_La_seal_2 rfl (lv_at hl 0 rfl) ?_
  refine lv_iload_n hx hb d_La_seal_3 rfl (lv_at hl 1 rfl) ?_
  refine lv_iload_n hx hb d_La_seal_4 rfl (lv_at hl 2 rfl) ?_
  obtain ⟨kp, hkp⟩ := isPl.ex (fun j => tt (pm j)) n1 cnt
  by_cases hat : kp < cnt ∧ tt (pm kp) = n1
  · by_cases hby : okB n2
    · have hIs := hI
      refine gw_Vi (As := [.int n1, .int n2]) (rest := [.int 0, .ref ou]) M hK hI (c_Gp_sealX l A pm cnt fd tt xt li la hC n1 n2 kp hkp hat hby) k_Gp_seal m_La_29 hC.O (ci := 5) rfl (fun x hx => ⟨_, hx⟩) rfl hl.1 rfl (Nat.le_of_ble_eq_true rfl) ⟨rfl, rfl, ⟨Nat.le_of_ble_eq_true rfl, Nat.le_of_ble_eq_true rfl⟩, ⟨Nat.le_of_ble_eq_true rfl, Nat.le_of_ble_eq_true rfl⟩⟩ d_La_seal_5 (fun x1 G2 H locs hw hI => ?_)
      have hor := hw
      obtain ⟨li2, la2, hC, hfr, hev⟩ : ∃ li2 la2, cls D G2 A pm cnt fd tt xt li2 la2 ∧ gw_fr (own A) G G2 ∧ (((gre (xt (pm kp)) ≤ la (pm kp) ∨ li (pm kp) < nI fd) ∧ li2 = li ∧ la2 = la) ∨ (¬ (gre (xt (pm kp)) ≤ la (pm kp) ∨ li (pm kp) < nI fd) ∧ li2 = fup li (pm kp) (li (pm kp) - nI fd) ∧ la2 = fup la (pm kp) (la (pm kp) + 1))) := by
        rcases hw with ⟨h1, -, hw⟩ | ⟨h1, -, hw⟩
        · exact ⟨li, la, by rw [hw]; exact hC, by rw [hw]; exact gw_fr.rf, Or.inl ⟨h1, rfl, rfl⟩⟩
        · have hi : pm kp < 16 := hC.pmb (Nat.lt_of_lt_of_le hat.1 hC.c16)
          have h9 := hC.asup hIs hi (tt (pm kp)) (xt (pm kp)) (li (pm kp) - nI fd) (la (pm kp) + 1) (hC.p.2.2.2.2 _ hi)
          simp only [fup_id] at h9
          exact ⟨_, _, by rw [hw]; exact h9, by rw [hw]; exact fr_as hi (fun b h => h), Or.inr ⟨h1, rfl, rfl⟩⟩
      have hUo : G2 ou = some (kL D 1 P) := hfr _ _ hU (fun h9 => hC0.nown hIs hU gt_L (Or.inl rfl) h9)
      have hU := hUo
      have hfr : gw_fr (ownU A ou) G G2 := hfr.le (fun b h => Or.inl h)
      refine lv_i2l hx hb d_La_seal_8 rfl ?_
      refine lv_topl (fun x3 e_x3 => ?_)
      obtain ⟨-, x9, ⟨f9, hf9, hq9⟩, hat9⟩ := hI.1.2.2 ou _ hU
      subst hq9
      have hIo := hI
      refine gw_last0 M hK hI hU hat9 (vp_in_nI (n := 0) (by decide) (by decide)) (kL D 1 (fun z => z = x3)) ⟨_, out_0, rfl⟩ d_La_seal_9 (fun H locs hI => ?_)
      obtain ⟨G4, hE_G4⟩ : ∃ z9, gw_up G2 ou (kL D 1 (fun z => z = x3)) = z9 := ⟨_, rfl⟩
      rw [hE_G4] at hI
      have hfu : gw_fr (fun b => b = ou) G2 G4 := by rw [← hE_G4]; exact gw_fr.up rfl
      have hU : G4 ou = some (kL D 1 (fun z => z = x3)) := by rw [← hE_G4]; exact gw_up_s
      have hC := hC.fr hfu (fun k i hk => hC.out hIo hUo gt_L (Or.inl rfl) hk)
      have hfr : gw_fr (ownU A ou) G G4 := hfr.tr (hfu.le (fun b h => Or.inr h))
      refine lv_goto (tgt := 21) hx hb d_La_seal_10 (by decide) ?_
      refine lv_iconst (v := 0) hx hb d_La_seal_21 (by decide) ?_
      refine W.widen (k := 1) (n := 6) (by omega) (by omega) ?_
      exact gw_iret M hr hlo hI d_La_seal_22 (⟨_, _, _, _, _, _, _, _, hC, hU, hfr, ⟨kp, hkp, rfl, rfl, rfl, rfl, rfl, Or.inr (Or.inr ⟨hat, hby, rfl, hev⟩)⟩, fun kp2 hkp2 hat2 _ => by have ek := isPl.un hkp2 hkp; subst ek; exact ⟨fun hc z hz => by rw [hz, e_x3, (hor.resolve_right (fun h => h.1 hc)).2.1], fun hc z hz => by rw [hz, e_x3, (hor.resolve_left (fun h => hc h.1)).2.1]⟩⟩)
    · refine xt_try2 (As := [.int n1, .int n2]) (rest := [.int 0, .ref ou]) M hK hI (c_Gp_sealy l htr A pm cnt fd tt xt li la hC n1 n2 kp hkp hat hby) (k_Gp_seal : gk_V _ _ _ _ _) m_La_29 hC.O (ci := 5) rfl (fun x hx => ⟨_, hx⟩) rfl hl.1 rfl (Nat.le_of_ble_eq_true rfl) ⟨rfl, rfl, ⟨Nat.le_of_ble_eq_true rfl, Nat.le_of_ble_eq_true rfl⟩, ⟨Nat.le_of_ble_eq_true rfl, Nat.le_of_ble_eq_true rfl⟩⟩ d_La_seal_5 (x1 := ⟨0, 10, 13, 19⟩) (x2 := ⟨0, 10, 17, 13⟩) htab (by decide) (by decide) (by decide) (by decide) q_La_19 q_La_13 (by obtain ⟨-, -, -, -, -, -, -, t9, f9, -, -, -, -, -, k1, k2, k3, -⟩ := hK; exact k1) (by obtain ⟨-, -, -, -, -, -, -, t9, f9, -, -, -, -, -, -, -, -, -, -, n1, n2⟩ := hK; exact n1) (fun q9 H locs hI => ?_)
      refine lv_astore (lv' := [(4, .ref q9), (0, .ref (A 0 0)), (1, .int n1), (2, .int n2), (3, .ref ou)]) hx hb d_La_seal_17 hl (by decide) rfl (fun ls hl => ?_)
      refine lv_iconst (v := 2) hx hb d_La_seal_19 (by decide) ?_
      exact gw_iret M hr hlo hI d_La_seal_20 (⟨_, _, _, _, _, _, _, _, hC, hU, gw_fr.rf, ⟨kp, hkp, rfl, rfl, rfl, rfl, rfl, Or.inr (Or.inl ⟨hat, hby, rfl, rfl, rfl⟩)⟩, fun _ _ _ h => absurd h hby⟩)
  · refine xt_try (As := [.int n1, .int n2]) (rest := [.int 0, .ref ou]) M hK hI (c_Gp_sealx l htr A pm cnt fd tt xt li la hC n1 n2 kp hkp hat) (k_Gp_seal : gk_V _ _ _ _ _) m_La_29 hC.O (ci := 5) rfl (fun x hx => ⟨_, hx⟩) rfl hl.1 rfl (Nat.le_of_ble_eq_true rfl) ⟨rfl, rfl, ⟨Nat.le_of_ble_eq_true rfl, Nat.le_of_ble_eq_true rfl⟩, ⟨Nat.le_of_ble_eq_true rfl, Nat.le_of_ble_eq_true rfl⟩⟩ d_La_seal_5 (x := ⟨0, 10, 13, 19⟩) htab (by decide) (by decide) q_La_19 (by obtain ⟨-, -, -, -, -, -, -, t9, f9, -, -, -, -, -, k1, k2, k3, -⟩ := hK; exact k2) (fun q9 H locs hI => ?_)
    refine lv_astore (lv' := [(4, .ref q9), (0, .ref (A 0 0)), (1, .int n1), (2, .int n2), (3, .ref ou)]) hx hb d_La_seal_13 hl (by decide) rfl (fun ls hl => ?_)
    refine lv_iconst (v := 1) hx hb d_La_seal_15 (by decide) ?_
    exact gw_iret M hr hlo hI d_La_seal_16 (⟨_, _, _, _, _, _, _, _, hC, hU, gw_fr.rf, ⟨kp, hkp, rfl, rfl, rfl, rfl, rfl, Or.inl ⟨hat, rfl, rfl, rfl⟩⟩, fun kp2 hkp2 h _ => absurd (isPl.un hkp2 hkp ▸ h) hat⟩)
