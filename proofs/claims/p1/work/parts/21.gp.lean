section GPP
variable {p : Program} {l : Launch} {e : Env} {R : Room} {s : State} {m : MethodId} {args : Array Value} {below : List Frame} {meth : Method} {c : Code} {H H0 : Heap} {locs : List Loc} {cells slots : Nat} {Q : State → Prop}
variable {cc : ByteArray} {pc nL : Nat} {ls : Array Slot} {rest st : List Value} {own : String} {D : gw_D} {Hs : Heap} {G : gw_G} {K : va_E → Prop}
variable {y : MethodName} {bytes : ByteArray} {maxL n index b : Nat} {ret : Option FieldType} {rm : Room} {As : List Value}
/-- the end of a method that only reads -/
theorem gp_ret {v : Int32} {post : Int32 → Prop} {ty : FieldType} (M : CallFix p m c cc nL s args tb own) (hr : meth.sig.returnType = some ty) (hn : narrow ty (.int v) = .int v) (hlo : meth.locks = false) (hdg : decode cc pc = .ok (.ireturn, 1)) (hp : post v) :
    W p l e R s m args below meth c s.heap [] 0 0 (MQ below (vp_Si post) args s 0 0 (fun _ => False)) (F0 m pc ls [.int v]) :=
  W.zret M.1 M.2.1 hr hn (fun t ht hW => ⟨v, rfl, hp, ht⟩) (fun q hq => nomatch hq) hdg hlo
theorem gp_run {post : Int32 → Prop} {a : Array Value} {st0 : List Value} (hr : va_Run p l e R s m args below meth c H locs cells slots 0 0 (F0 m pc ls st0) rest (vp_Si post a) (fun _ => False)) (kk : ∀ r : Int32, post r → W p l e R s m args below meth c H locs cells slots Q (F0 m (pc + 3) ls (.int r :: rest))) : W p l e R s m args below meth c H locs cells slots Q (F0 m pc ls st0) := by
  intro T hT X
  obtain ⟨v, st₀, t, T', L, h0, X', hL, e1, -, ⟨r, hv, hp, hh⟩, sg⟩ := hr T hT X
  cases hv
  have hL0 : L = [] := by
    cases L with
    | nil => rfl
    | cons z zs => exact (hL z List.mem_cons_self).elim
  subst hL0
  rw [List.append_nil] at X'
  obtain ⟨t2, a1, b1⟩ := kk r hp T' (by rw [e1, hh]; exact h0) X'
  exact ⟨t2, sg t2 a1, b1⟩
theorem gp_V {post : Int32 → Prop} (M : CallFix p m c cc nL s args tb own) (hK : gw_K D Hs s) (hI : gw_I D Hs G H0 H locs) (hM : Met l y (Cond.code y bytes maxL ret :: tb) rm (gw_Pc D Hs G (.ref b :: As)) (vp_Si post) 0 0 (fun _ => False)) (k : gk_V y bytes maxL ret n) (hl : Cond.methodLink own index y ∈ tb) (hG : G b = some K) {T : u_T} {N ci : Nat} (hc : gcl[ci]? = some (y.cls, T, N)) (hv : ∀ x, K x → ∃ fs, x = .inr (ci, fs)) (hn : As.length = n) (hsize : ls.size = nL) (hst : st = As.reverse ++ .ref b :: rest) (hW : (rest.map fun v => v.category).sum ≤ 8) (hR : gk_R rm R maxL 0 0 cells slots) (hdg : decode cc pc = .ok (.invokevirtual index, 3))
    (kk : ∀ r : Int32, post r → W p l e R s m args below meth c H locs cells slots Q (F0 m (pc + 3) ls (.int r :: rest))) : W p l e R s m args below meth c H locs cells slots Q (F0 m pc ls st) := by
  subst hst
  exact gp_run (va_runV (As := As) (rest := rest) M hM (gk_cwV M.2.2.2.2 hl k hR.1 hR.2.1 hR.2.2.1) ⟨gw_Pc.blind, gw_recv hK hI hG hc hv, gw_pre hK hI _⟩ rfl hn hsize rfl (lv_room hW) hdg hR.2.2.2) kk
theorem gp_S {post : Int32 → Prop} (M : CallFix p m c cc nL s args tb own) (hK : gw_K D Hs s) (hI : gw_I D Hs G H0 H locs) (hM : Met l y (Cond.code y bytes maxL ret :: tb) rm (gw_Pc D Hs G As) (vp_Si post) 0 0 (fun _ => False)) (k : gk_S y bytes maxL ret n) (hl : Cond.methodLink own index y ∈ tb) (hn : As.length = n) (hsize : ls.size = nL) (hst : st = As.reverse ++ rest) (hW : (rest.map fun v => v.category).sum ≤ 8) (hR : gk_R rm R maxL 0 0 cells slots) (hdg : decode cc pc = .ok (.invokestatic index, 3))
    (kk : ∀ r : Int32, post r → W p l e R s m args below meth c H locs cells slots Q (F0 m (pc + 3) ls (.int r :: rest))) : W p l e R s m args below meth c H locs cells slots Q (F0 m pc ls st) := by
  subst hst
  exact gp_run (va_runS (As := As) (rest := rest) M hM (gk_cwS M.2.2.2.2 hl k hR.1 hR.2.1 hR.2.2.1) ⟨gw_Pc.blind, gw_pre hK hI _⟩ rfl hn hsize rfl (lv_room hW) hdg hR.2.2.2) kk
end GPP
def xt_b (w : Cond) : Bool := (decide (w ∈ lw_tbl) && goodWord w) || decide (w = .declares (xt_i "java/lang/RuntimeException")) || decide (w = .declares (xt_i "java/lang/Exception")) || decide (w = .declares (xt_i "java/lang/Throwable")) || decide (w = .castable "java/lang/IllegalArgumentException" "java/lang/IllegalArgumentException") || decide (w = .castable "java/lang/IllegalStateException" "java/lang/IllegalStateException") || decide (w = .castable "java/lang/IndexOutOfBoundsException" "java/lang/IndexOutOfBoundsException") || decide (w = .laysStatic Bundle.tN "UNASSIGNED_STACK" Bundle.steD) || decide (w = .laysStatic Bundle.tN "SUPPRESSED_SENTINEL" Bundle.listD) || decide (w = .isRef (.static Bundle.tN "UNASSIGNED_STACK" Bundle.steD)) || decide (w = .isRef (.static Bundle.tN "SUPPRESSED_SENTINEL" Bundle.listD))
theorem xt_bt {ws : List Cond} (h : ws.all xt_b = true) : ∀ w ∈ ws, w ∈ tb ∨ xt_sp w := by
  intro w hw
  have h1 := List.all_eq_true.mp h w hw
  simp only [xt_b, Bool.or_eq_true, Bool.and_eq_true, decide_eq_true_eq] at h1
  rcases h1 with (((((((((h1 | h1) | h1) | h1) | h1) | h1) | h1) | h1) | h1) | h1) | h1
  · exact Or.inl (tb_of h1.1 h1.2)
  · exact Or.inr (Or.inl h1)
  · exact Or.inr (Or.inr (Or.inl h1))
  · exact Or.inr (Or.inr (Or.inr (Or.inl h1)))
  · exact Or.inr (Or.inr (Or.inr (Or.inr (Or.inl h1))))
  · exact Or.inr (Or.inr (Or.inr (Or.inr (Or.inr (Or.inl h1)))))
  · exact Or.inr (Or.inr (Or.inr (Or.inr (Or.inr (Or.inr (Or.inl h1))))))
  · exact Or.inr (Or.inr (Or.inr (Or.inr (Or.inr (Or.inr (Or.inr (Or.inl h1)))))))
  · exact Or.inr (Or.inr (Or.inr (Or.inr (Or.inr (Or.inr (Or.inr (Or.inr (Or.inl h1))))))))
  · exact Or.inr (Or.inr (Or.inr (Or.inr (Or.inr (Or.inr (Or.inr (Or.inr (Or.inr (Or.inl h1)))))))))
  · exact Or.inr (Or.inr (Or.inr (Or.inr (Or.inr (Or.inr (Or.inr (Or.inr (Or.inr (Or.inr h1)))))))))

theorem at_IAE : ∀ w ∈ Bundle.ownAtoms0 y_Gp_add.cls 55 "java/lang/IllegalArgumentException" ["java/lang/RuntimeException", "java/lang/Exception"], w ∈ tb ∨ xt_sp w := xt_bt (by decide +kernel)
theorem z_IAE : Cond.initialized "java/lang/IllegalArgumentException" ∈ tb := tb_1 11 rfl rfl
theorem j_IAE : Cond.instantiable "java/lang/IllegalArgumentException" 6 ∈ tb := tb_2 132 rfl rfl

theorem at_ISE : ∀ w ∈ Bundle.ownAtoms0 y_Gp_add.cls 207 "java/lang/IllegalStateException" ["java/lang/RuntimeException", "java/lang/Exception"], w ∈ tb ∨ xt_sp w := xt_bt (by decide +kernel)
theorem z_ISE : Cond.initialized "java/lang/IllegalStateException" ∈ tb := tb_1 12 rfl rfl
theorem j_ISE : Cond.instantiable "java/lang/IllegalStateException" 6 ∈ tb := tb_2 224 rfl rfl

theorem at_IOE : ∀ w ∈ Bundle.ownAtoms0 y_Gp_add.cls 131 "java/lang/IndexOutOfBoundsException" ["java/lang/RuntimeException", "java/lang/Exception"], w ∈ tb ∨ xt_sp w := xt_bt (by decide +kernel)
theorem z_IOE : Cond.initialized "java/lang/IndexOutOfBoundsException" ∈ tb := tb_1 14 rfl rfl
theorem j_IOE : Cond.instantiable "java/lang/IndexOutOfBoundsException" 6 ∈ tb := tb_3 41 rfl rfl

abbrev rm_Gp_isWindow : Room := { frames := 0, cells := 0, slots := 0, locals := 0 }
set_option maxHeartbeats 4000000 in
set_option maxRecDepth 100000 in
theorem c_Gp_isWindow (l : Launch) {D : gw_D} {Hs : Heap} {G : gw_G} (n0 : Int32) : Met l y_Gp_isWindow (Cond.code y_Gp_isWindow b_Gp_isWindow 1 (some .boolean) :: tb) rm_Gp_isWindow (gw_Pc D Hs G [.int n0]) (vp_Si (fun r => (okW n0 ∧ r = 1) ∨ (¬ okW n0 ∧ r = 0))) 0 0 (fun _ => False) := by
  refine gw_met (by decide) (Nat.le_of_ble_eq_true rfl) ?_
  intro p e s m args below meth c M hK hr hlo hin hI ls hl
  have hx := M.1
  have hb := M.2.1
  have hl : lv_has ls 1 [(0, .int n0)] := hl
  refine lv_iload_n hx hb d_Gp_isWindow_0 rfl (lv_at hl 0 rfl) ?_
  refine lv_bipush (v := 32) hx hb d_Gp_isWindow_1 (by decide) ?_
  refine lv_icmp_lt (tgt := 24) hx hb d_Gp_isWindow_3 (by decide) (fun c_3 => ?_) (fun c_3 => ?_)
  · have hw1 := c_3
    refine lv_iconst (v := 0) hx hb d_Gp_isWindow_24 (by decide) ?_
    exact gp_ret M hr rfl hlo d_Gp_isWindow_25 (Or.inr ⟨(fun h => h.1 c_3), rfl⟩)
  · refine lv_iload_n hx hb d_Gp_isWindow_6 rfl (lv_at hl 0 rfl) ?_
    refine lv_sipush (v := 1024) hx hb d_Gp_isWindow_7 (by decide) ?_
    refine lv_icmp_gt (tgt := 24) hx hb d_Gp_isWindow_10 (by decide) (fun c_10 => ?_) (fun c_10 => ?_)
    · have hw1 := c_10
      refine lv_iconst (v := 0) hx hb d_Gp_isWindow_24 (by decide) ?_
      exact gp_ret M hr rfl hlo d_Gp_isWindow_25 (Or.inr ⟨(fun h => h.2.1 c_10), rfl⟩)
    · refine lv_iload_n hx hb d_Gp_isWindow_13 rfl (lv_at hl 0 rfl) ?_
      refine lv_bipush (v := 32) hx hb d_Gp_isWindow_14 (by decide) ?_
      refine lv_irem hx hb d_Gp_isWindow_16 (by decide) ?_
      refine lv_if_ne (tgt := 24) hx hb d_Gp_isWindow_17 (by decide) (fun c_17 => ?_) (fun c_17 => ?_)
      · have hw1 := c_17
        refine lv_iconst (v := 0) hx hb d_Gp_isWindow_24 (by decide) ?_
        exact gp_ret M hr rfl hlo d_Gp_isWindow_25 (Or.inr ⟨(fun h => c_17 h.2.2), rfl⟩)
      · refine lv_iconst (v := 1) hx hb d_Gp_isWindow_20 (by decide) ?_
        refine lv_goto (tgt := 25) hx hb d_Gp_isWindow_21 (by decide) ?_
        exact gp_ret M hr rfl hlo d_Gp_isWindow_25 (Or.inl ⟨⟨c_3, c_10, c_17⟩, rfl⟩)

abbrev rm_Gp_isPlace : Room := { frames := 0, cells := 0, slots := 0, locals := 0 }
set_option maxHeartbeats 4000000 in
set_option maxRecDepth 100000 in
theorem c_Gp_isPlace (l : Launch) {D : gw_D} {Hs : Heap} {G : gw_G} (n0 : Int32) : Met l y_Gp_isPlace (Cond.code y_Gp_isPlace b_Gp_isPlace 1 (some .boolean) :: tb) rm_Gp_isPlace (gw_Pc D Hs G [.int n0]) (vp_Si (fun r => ((¬ n0 < 0 ∧ ¬ 8 ≤ n0) ∧ r = 1) ∨ ((n0 < 0 ∨ 8 ≤ n0) ∧ r = 0))) 0 0 (fun _ => False) := by
  refine gw_met (by decide) (Nat.le_of_ble_eq_true rfl) ?_
  intro p e s m args below meth c M hK hr hlo hin hI ls hl
  have hx := M.1
  have hb := M.2.1
  have hl : lv_has ls 1 [(0, .int n0)] := hl
  refine lv_iload_n hx hb d_Gp_isPlace_0 rfl (lv_at hl 0 rfl) ?_
  refine lv_if_lt (tgt := 14) hx hb d_Gp_isPlace_1 (by decide) (fun c_1 => ?_) (fun c_1 => ?_)
  · have hw1 := c_1
    refine lv_iconst (v := 0) hx hb d_Gp_isPlace_14 (by decide) ?_
    exact gp_ret M hr rfl hlo d_Gp_isPlace_15 (Or.inr ⟨Or.inl c_1, rfl⟩)
  · refine lv_iload_n hx hb d_Gp_isPlace_4 rfl (lv_at hl 0 rfl) ?_
    refine lv_bipush (v := 8) hx hb d_Gp_isPlace_5 (by decide) ?_
    refine lv_icmp_ge (tgt := 14) hx hb d_Gp_isPlace_7 (by decide) (fun c_7 => ?_) (fun c_7 => ?_)
    · have hw1 := c_7
      refine lv_iconst (v := 0) hx hb d_Gp_isPlace_14 (by decide) ?_
      exact gp_ret M hr rfl hlo d_Gp_isPlace_15 (Or.inr ⟨Or.inr c_7, rfl⟩)
    · refine lv_iconst (v := 1) hx hb d_Gp_isPlace_10 (by decide) ?_
      refine lv_goto (tgt := 15) hx hb d_Gp_isPlace_11 (by decide) ?_
      exact gp_ret M hr rfl hlo d_Gp_isPlace_15 (Or.inl ⟨⟨c_1, c_7⟩, rfl⟩)

abbrev rm_Gp_placeOf : Room := { frames := 0, cells := 0, slots := 0, locals := 0 }
set_option maxHeartbeats 4000000 in
set_option maxRecDepth 100000 in
theorem c_Gp_placeOf (l : Launch) {D : gw_D} {Hs : Heap} {G : gw_G} (n1 : Int32) (o arr fed sent places plain gained check : Nat) (hO : G o = some (kx (.inr (5, [.ref arr, .int 0, .ref fed, .ref sent, .ref places, .ref plain, .ref gained, .ref check])))) : Met l y_Gp_placeOf (Cond.code y_Gp_placeOf b_Gp_placeOf 3 (some .int) :: tb) rm_Gp_placeOf (gw_Pc D Hs G [.ref o, .int n1]) (vp_Si (fun r => r = 0)) 0 0 (fun _ => False) := by
  refine gw_met (by decide) (Nat.le_of_ble_eq_true rfl) ?_
  intro p e s m args below meth c M hK hr hlo hin hI ls hl
  have hx := M.1
  have hb := M.2.1
  have hl : lv_has ls 3 [(0, .ref o), (1, .int n1)] := hl
  refine lv_iconst (v := 0) hx hb d_Gp_placeOf_0 (by decide) ?_
  refine lv_istore_n (lv' := [(2, .int 0), (0, .ref o), (1, .int n1)]) hx hb d_Gp_placeOf_1 rfl hl (by decide) rfl (fun ls hl => ?_)
  refine lv_iload_n hx hb d_Gp_placeOf_2 rfl (lv_at hl 0 rfl) ?_
  refine lv_aload_n hx hb d_Gp_placeOf_3 rfl (lv_at hl 1 rfl) ?_
  refine gw_get M hK hI hO i_Gp rfl 1 (by decide) f_Gp_15 rfl (Pv := fun v => v = .int 0) (fun x hx => ⟨_, _, hx, rfl, rfl⟩) d_Gp_placeOf_4 (fun v hv => ?_)
  subst hv
  refine lv_icmp_ge (tgt := 29) hx hb d_Gp_placeOf_7 (by decide) (fun c_7 => ?_) (fun q9 => absurd (by decide) q9)
  refine lv_iload_n hx hb d_Gp_placeOf_29 rfl (lv_at hl 0 rfl) ?_
  exact gp_ret M hr rfl hlo d_Gp_placeOf_30 rfl

abbrev rm_Gp_isAt : Room := { frames := 0, cells := 0, slots := 0, locals := 0 }
set_option maxHeartbeats 4000000 in
set_option maxRecDepth 100000 in
theorem c_Gp_isAt (l : Launch) {D : gw_D} {Hs : Heap} {G : gw_G} (n2 : Int32) (o arr fed sent places plain gained check : Nat) (hO : G o = some (kx (.inr (5, [.ref arr, .int 0, .ref fed, .ref sent, .ref places, .ref plain, .ref gained, .ref check])))) : Met l y_Gp_isAt (Cond.code y_Gp_isAt b_Gp_isAt 3 (some .boolean) :: tb) rm_Gp_isAt (gw_Pc D Hs G [.ref o, .int 0, .int n2]) (vp_Si (fun r => r = 0)) 0 0 (fun _ => False) := by
  refine gw_met (by decide) (Nat.le_of_ble_eq_true rfl) ?_
  intro p e s m args below meth c M hK hr hlo hin hI ls hl
  have hx := M.1
  have hb := M.2.1
  have hl : lv_has ls 3 [(0, .ref o), (1, .int 0), (2, .int n2)] := hl
  refine lv_iload_n hx hb d_Gp_isAt_0 rfl (lv_at hl 1 rfl) ?_
  refine lv_aload_n hx hb d_Gp_isAt_1 rfl (lv_at hl 0 rfl) ?_
  refine gw_get M hK hI hO i_Gp rfl 1 (by decide) f_Gp_15 rfl (Pv := fun v => v = .int 0) (fun x hx => ⟨_, _, hx, rfl, rfl⟩) d_Gp_isAt_2 (fun v hv => ?_)
  subst hv
  refine lv_icmp_ge (tgt := 25) hx hb d_Gp_isAt_5 (by decide) (fun c_5 => ?_) (fun q9 => absurd (by decide) q9)
  refine lv_iconst (v := 0) hx hb d_Gp_isAt_25 (by decide) ?_
  exact gp_ret M hr rfl hlo d_Gp_isAt_26 rfl

abbrev rm_Gp_knownx : Room := { frames := 6, cells := 1, slots := 6, locals := 100 }
set_option maxHeartbeats 4000000 in
set_option maxRecDepth 100000 in
theorem c_Gp_knownx (l : Launch) (htr : l.stackTraces = false) {D : gw_D} {Hs : Heap} {G : gw_G} (n1 : Int32) (o arr fed sent places plain gained check : Nat) (hO : G o = some (kx (.inr (5, [.ref arr, .int 0, .ref fed, .ref sent, .ref places, .ref plain, .ref gained, .ref check])))) : xt_Met l y_Gp_known b_Gp_known 3 (some (.object "GuardedPackets$Association")) rm_Gp_knownx D Hs G [.ref o, .int n1] "java/lang/IllegalStateException" 1 6 := by
  refine xt_met (by decide) (Nat.le_of_ble_eq_true rfl) ?_
  intro p e s m args below meth c M hK hlo hex hI ls hl
  have hx := M.1
  have hb := M.2.1
  have hl : lv_has ls 3 [(0, .ref o), (1, .int n1)] := hl
  refine lv_aload_n hx hb d_Gp_known_0 rfl (lv_at hl 0 rfl) ?_
  refine lv_iload_n hx hb d_Gp_known_1 rfl (lv_at hl 1 rfl) ?_
  refine gp_V (As := [.int n1]) (rest := []) M hK hI (c_Gp_placeOf l n1 o arr fed sent places plain gained check hO) k_Gp_placeOf m_Gp_56 hO (ci := 5) rfl (fun x hx => ⟨_, hx⟩) rfl hl.1 rfl (Nat.le_of_ble_eq_true rfl) ⟨rfl, rfl, ⟨Nat.le_of_ble_eq_true rfl, Nat.le_of_ble_eq_true rfl⟩, ⟨Nat.le_of_ble_eq_true rfl, Nat.le_of_ble_eq_true rfl⟩⟩ d_Gp_known_2 (fun x1 h_x1 => ?_)
  subst h_x1
  refine lv_istore_n (lv' := [(2, .int 0), (0, .ref o), (1, .int n1)]) hx hb d_Gp_known_5 rfl hl (by decide) rfl (fun ls hl => ?_)
  refine lv_aload_n hx hb d_Gp_known_6 rfl (lv_at hl 1 rfl) ?_
  refine lv_iload_n hx hb d_Gp_known_7 rfl (lv_at hl 0 rfl) ?_
  refine lv_iload_n hx hb d_Gp_known_8 rfl (lv_at hl 2 rfl) ?_
  refine gp_V (As := [.int 0, .int n1]) (rest := []) M hK hI (c_Gp_isAt l n1 o arr fed sent places plain gained check hO) k_Gp_isAt m_Gp_60 hO (ci := 5) rfl (fun x hx => ⟨_, hx⟩) rfl hl.1 rfl (Nat.le_of_ble_eq_true rfl) ⟨rfl, rfl, ⟨Nat.le_of_ble_eq_true rfl, Nat.le_of_ble_eq_true rfl⟩, ⟨Nat.le_of_ble_eq_true rfl, Nat.le_of_ble_eq_true rfl⟩⟩ d_Gp_known_9 (fun x2 h_x2 => ?_)
  subst h_x2
  refine lv_if_ne (tgt := 23) hx hb d_Gp_known_12 (by decide) (fun q9 => absurd (by decide) q9) (fun c_12 => ?_)
  exact xt_throw M hK hI htr hlo hex (names := ["java/lang/RuntimeException", "java/lang/Exception"]) (ic := 207) (by decide +kernel) (by decide +kernel) q_Gp_205 z_ISE j_ISE at_ISE hl.1 d_Gp_known_15 d_Gp_known_18 d_Gp_known_19 d_Gp_known_22 (by decide) (by decide) (by decide) (by decide)

abbrev rm_Gp_hurryx : Room := { frames := 7, cells := 1, slots := 6, locals := 122 }
set_option maxHeartbeats 4000000 in
set_option maxRecDepth 100000 in
theorem c_Gp_hurryx (l : Launch) (htr : l.stackTraces = false) {D : gw_D} {Hs : Heap} {G : gw_G} (n1 : Int32) (n2 : Int64) (o arr fed sent places plain gained check : Nat) (hO : G o = some (kx (.inr (5, [.ref arr, .int 0, .ref fed, .ref sent, .ref places, .ref plain, .ref gained, .ref check])))) : xt_Met l y_Gp_hurry b_Gp_hurry 5 none rm_Gp_hurryx D Hs G [.ref o, .int n1, .long n2] "java/lang/IllegalStateException" 1 6 := by
  refine xt_met (by decide) (Nat.le_of_ble_eq_true rfl) ?_
  intro p e s m args below meth c M hK hlo hex hI ls hl
  have hx := M.1
  have hb := M.2.1
  have hl : lv_has ls 5 [(0, .ref o), (1, .int n1), (2, .long n2)] := hl
  refine lv_aload_n hx hb d_Gp_hurry_0 rfl (lv_at hl 0 rfl) ?_
  refine lv_iload_n hx hb d_Gp_hurry_1 rfl (lv_at hl 1 rfl) ?_
  exact xt_out (As := [.int n1]) (rest := []) M hK hI hlo hex (c_Gp_knownx l htr n1 o arr fed sent places plain gained check hO) (k_Gp_known : gk_V _ _ _ _ _) m_Gp_72 hO (ci := 5) rfl (fun x hx => ⟨_, hx⟩) rfl hl.1 rfl (Nat.le_of_ble_eq_true rfl) ⟨rfl, rfl, ⟨Nat.le_of_ble_eq_true rfl, Nat.le_of_ble_eq_true rfl⟩, ⟨Nat.le_of_ble_eq_true rfl, Nat.le_of_ble_eq_true rfl⟩⟩ d_Gp_hurry_2

abbrev rm_Gp_lifex : Room := { frames := 7, cells := 1, slots := 6, locals := 122 }
set_option maxHeartbeats 4000000 in
set_option maxRecDepth 100000 in
theorem c_Gp_lifex (l : Launch) (htr : l.stackTraces = false) {D : gw_D} {Hs : Heap} {G : gw_G} (n1 n2 : Int32) (o arr fed sent places plain gained check : Nat) (hO : G o = some (kx (.inr (5, [.ref arr, .int 0, .ref fed, .ref sent, .ref places, .ref plain, .ref gained, .ref check])))) : xt_Met l y_Gp_life b_Gp_life 5 (some .int) rm_Gp_lifex D Hs G [.ref o, .int n1, .int n2] "java/lang/IllegalStateException" 1 6 := by
  refine xt_met (by decide) (Nat.le_of_ble_eq_true rfl) ?_
  intro p e s m args below meth c M hK hlo hex hI ls hl
  have hx := M.1
  have hb := M.2.1
  have hl : lv_has ls 5 [(0, .ref o), (1, .int n1), (2, .int n2)] := hl
  refine lv_aload_n hx hb d_Gp_life_0 rfl (lv_at hl 0 rfl) ?_
  refine lv_iload_n hx hb d_Gp_life_1 rfl (lv_at hl 1 rfl) ?_
  exact xt_out (As := [.int n1]) (rest := []) M hK hI hlo hex (c_Gp_knownx l htr n1 o arr fed sent places plain gained check hO) (k_Gp_known : gk_V _ _ _ _ _) m_Gp_72 hO (ci := 5) rfl (fun x hx => ⟨_, hx⟩) rfl hl.1 rfl (Nat.le_of_ble_eq_true rfl) ⟨rfl, rfl, ⟨Nat.le_of_ble_eq_true rfl, Nat.le_of_ble_eq_true rfl⟩, ⟨Nat.le_of_ble_eq_true rfl, Nat.le_of_ble_eq_true rfl⟩⟩ d_Gp_life_2

abbrev rm_Gp_sealx : Room := { frames := 7, cells := 1, slots := 6, locals := 122 }
set_option maxHeartbeats 4000000 in
set_option maxRecDepth 100000 in
theorem c_Gp_sealx (l : Launch) (htr : l.stackTraces = false) {D : gw_D} {Hs : Heap} {G : gw_G} (n1 n2 : Int32) (o arr fed sent places plain gained check : Nat) (hO : G o = some (kx (.inr (5, [.ref arr, .int 0, .ref fed, .ref sent, .ref places, .ref plain, .ref gained, .ref check])))) : xt_Met l y_Gp_seal b_Gp_seal 5 (some .int) rm_Gp_sealx D Hs G [.ref o, .int n1, .int n2] "java/lang/IllegalStateException" 1 6 := by
  refine xt_met (by decide) (Nat.le_of_ble_eq_true rfl) ?_
  intro p e s m args below meth c M hK hlo hex hI ls hl
  have hx := M.1
  have hb := M.2.1
  have hl : lv_has ls 5 [(0, .ref o), (1, .int n1), (2, .int n2)] := hl
  refine lv_aload_n hx hb d_Gp_seal_0 rfl (lv_at hl 0 rfl) ?_
  refine lv_iload_n hx hb d_Gp_seal_1 rfl (lv_at hl 1 rfl) ?_
  exact xt_out (As := [.int n1]) (rest := []) M hK hI hlo hex (c_Gp_knownx l htr n1 o arr fed sent places plain gained check hO) (k_Gp_known : gk_V _ _ _ _ _) m_Gp_72 hO (ci := 5) rfl (fun x hx => ⟨_, hx⟩) rfl hl.1 rfl (Nat.le_of_ble_eq_true rfl) ⟨rfl, rfl, ⟨Nat.le_of_ble_eq_true rfl, Nat.le_of_ble_eq_true rfl⟩, ⟨Nat.le_of_ble_eq_true rfl, Nat.le_of_ble_eq_true rfl⟩⟩ d_Gp_seal_2

abbrev rm_Gp_toldx : Room := { frames := 7, cells := 1, slots := 6, locals := 122 }
set_option maxHeartbeats 4000000 in
set_option maxRecDepth 100000 in
theorem c_Gp_toldx (l : Launch) (htr : l.stackTraces = false) {D : gw_D} {Hs : Heap} {G : gw_G} (n1 n2 : Int32) (o arr fed sent places plain gained check : Nat) (hO : G o = some (kx (.inr (5, [.ref arr, .int 0, .ref fed, .ref sent, .ref places, .ref plain, .ref gained, .ref check])))) : xt_Met l y_Gp_told b_Gp_told 4 (some .long) rm_Gp_toldx D Hs G [.ref o, .int n1, .int n2] "java/lang/IllegalStateException" 1 6 := by
  refine xt_met (by decide) (Nat.le_of_ble_eq_true rfl) ?_
  intro p e s m args below meth c M hK hlo hex hI ls hl
  have hx := M.1
  have hb := M.2.1
  have hl : lv_has ls 4 [(0, .ref o), (1, .int n1), (2, .int n2)] := hl
  refine lv_aload_n hx hb d_Gp_told_0 rfl (lv_at hl 0 rfl) ?_
  refine lv_iload_n hx hb d_Gp_told_1 rfl (lv_at hl 1 rfl) ?_
  exact xt_out (As := [.int n1]) (rest := []) M hK hI hlo hex (c_Gp_knownx l htr n1 o arr fed sent places plain gained check hO) (k_Gp_known : gk_V _ _ _ _ _) m_Gp_72 hO (ci := 5) rfl (fun x hx => ⟨_, hx⟩) rfl hl.1 rfl (Nat.le_of_ble_eq_true rfl) ⟨rfl, rfl, ⟨Nat.le_of_ble_eq_true rfl, Nat.le_of_ble_eq_true rfl⟩, ⟨Nat.le_of_ble_eq_true rfl, Nat.le_of_ble_eq_true rfl⟩⟩ d_Gp_told_2

abbrev rm_Gp_givenx : Room := { frames := 7, cells := 1, slots := 6, locals := 122 }
set_option maxHeartbeats 4000000 in
set_option maxRecDepth 100000 in
theorem c_Gp_givenx (l : Launch) (htr : l.stackTraces = false) {D : gw_D} {Hs : Heap} {G : gw_G} (n1 n2 : Int32) (o arr fed sent places plain gained check : Nat) (hO : G o = some (kx (.inr (5, [.ref arr, .int 0, .ref fed, .ref sent, .ref places, .ref plain, .ref gained, .ref check])))) : xt_Met l y_Gp_given b_Gp_given 4 (some .long) rm_Gp_givenx D Hs G [.ref o, .int n1, .int n2] "java/lang/IllegalStateException" 1 6 := by
  refine xt_met (by decide) (Nat.le_of_ble_eq_true rfl) ?_
  intro p e s m args below meth c M hK hlo hex hI ls hl
  have hx := M.1
  have hb := M.2.1
  have hl : lv_has ls 4 [(0, .ref o), (1, .int n1), (2, .int n2)] := hl
  refine lv_aload_n hx hb d_Gp_given_0 rfl (lv_at hl 0 rfl) ?_
  refine lv_iload_n hx hb d_Gp_given_1 rfl (lv_at hl 1 rfl) ?_
  exact xt_out (As := [.int n1]) (rest := []) M hK hI hlo hex (c_Gp_knownx l htr n1 o arr fed sent places plain gained check hO) (k_Gp_known : gk_V _ _ _ _ _) m_Gp_72 hO (ci := 5) rfl (fun x hx => ⟨_, hx⟩) rfl hl.1 rfl (Nat.le_of_ble_eq_true rfl) ⟨rfl, rfl, ⟨Nat.le_of_ble_eq_true rfl, Nat.le_of_ble_eq_true rfl⟩, ⟨Nat.le_of_ble_eq_true rfl, Nat.le_of_ble_eq_true rfl⟩⟩ d_Gp_given_2
