section GWA
variable {p : Program} {l : Launch} {e : Env} {R : Room} {s : State} {m : MethodId} {args : Array Value} {below : List Frame} {meth : Method} {c : Code} {H H0 : Heap} {locs : List Loc} {cells slots : Nat} {Q : State → Prop}
variable {cc : ByteArray} {pc nL : Nat} {ls : Array Slot} {rest : List Value} {a : Nat} {own : String} {D : gw_D} {Hs : Heap} {G : gw_G} {K : va_E → Prop}
theorem gw_iald (M : CallFix p m c cc nL s args tb own) (hK : gw_K D Hs s) (hI : gw_I D Hs G H0 H locs) {n : Nat} {P : Int32 → Prop} (hG : G a = some (kA D 0 n P)) {i : Int32} (hin : vp_in i n) (hdg : decode cc pc = .ok (.iaload, 1))
    (kk : ∀ x : Int32, P x → W p l e R s m args below meth c H locs cells slots Q (F0 m (pc + 1) ls (.int x :: rest))) : W p l e R s m args below meth c H locs cells slots Q (F0 m pc ls (.int i :: .ref a :: rest)) := by
  obtain ⟨-, x, ⟨f, hf, rfl⟩, hx2⟩ := hI.1.2.2 a _ hG
  have hlt : i.toNatClampNeg < n := Nat.not_le.mp fun q => hin (Or.inr q)
  exact va_iald M.1 M.2.1 hK.1 (gw_one hx2) 0 0 rfl rfl hin hdg (kk _ (hf _ hlt))
theorem gw_ialdx (M : CallFix p m c cc nL s args tb own) (hK : gw_K D Hs s) (hI : gw_I D Hs G H0 H locs) {n : Nat} {f : Nat → Int32} (hG : G a = some (kx (.inl (D.2 0, n, .inl f)))) {i : Int32} (hin : vp_in i n) (hdg : decode cc pc = .ok (.iaload, 1))
    (kk : W p l e R s m args below meth c H locs cells slots Q (F0 m (pc + 1) ls (.int (f i.toNatClampNeg) :: rest))) : W p l e R s m args below meth c H locs cells slots Q (F0 m pc ls (.int i :: .ref a :: rest)) := by
  obtain ⟨-, x, rfl, hx2⟩ := hI.1.2.2 a _ hG
  exact va_iald M.1 M.2.1 hK.1 (gw_one hx2) 0 0 rfl rfl hin hdg kk
theorem gw_iast0 (M : CallFix p m c cc nL s args tb own) (hK : gw_K D Hs s) (hI : gw_I D Hs G H0 H locs) {n : Nat} {f : Nat → Int32} (hG : G a = some K) (hat : gw_at D a (.inl (D.2 0, n, .inl f)) H) {i x : Int32} (hin : vp_in i n) (K' : va_E → Prop) (hk : K' (.inl (D.2 0, n, .inl (upd f i.toNatClampNeg x)))) (hdg : decode cc pc = .ok (.iastore, 1))
    (kk : ∀ (H1 : Heap) (locs1 : List Loc), gw_I D Hs (gw_up G a K') H0 H1 locs1 → W p l e R s m args below meth c H1 locs1 cells slots Q (F0 m (pc + 1) ls rest)) : W p l e R s m args below meth c H locs cells slots Q (F0 m pc ls (.int x :: .int i :: .ref a :: rest)) := by
  have hA := (hI.1.2.2 a _ hG).1
  refine W.iast M.1 M.2.1 hat ((hK.1.2 0 _ rfl).1 n (fun j => .int (f j))) (fun q => by cases q) (by show ¬ (i < 0 ∨ (arrV _ _ _).slots.size ≤ _); rw [arrV_size]; exact hin) rfl rfl hdg fun H1 e1 z oq => ?_
  refine kk H1 _ ⟨hI.1.put hG (e := .inl (D.2 0, n, .inl (upd f i.toNatClampNeg x))) ?_ hk z oq, hI.2.put z oq hA⟩
  show H1[a]? = some (vp_cell _ _)
  rw [e1]
  rw [vp_cell_i, vp_cell_i, arrV_store]
  congr 2
  funext q
  by_cases hq : q = i.toNatClampNeg
  · subst hq
    simp [updV, upd]
    try rfl
  · simp [updV, upd, hq]
theorem gw_iast (M : CallFix p m c cc nL s args tb own) (hK : gw_K D Hs s) (hI : gw_I D Hs G H0 H locs) {n : Nat} {P : Int32 → Prop} (hG : G a = some (kA D 0 n P)) {i x : Int32} (hin : vp_in i n) (hP : P x) (hdg : decode cc pc = .ok (.iastore, 1))
    (kk : ∀ (H1 : Heap) (locs1 : List Loc), gw_I D Hs G H0 H1 locs1 → W p l e R s m args below meth c H1 locs1 cells slots Q (F0 m (pc + 1) ls rest)) : W p l e R s m args below meth c H locs cells slots Q (F0 m pc ls (.int x :: .int i :: .ref a :: rest)) := by
  obtain ⟨-, y, ⟨f, hf, rfl⟩, hx2⟩ := hI.1.2.2 a _ hG
  refine gw_iast0 M hK hI hG hx2 hin (kA D 0 n P) ⟨_, fun j hj => ?_, rfl⟩ hdg (fun H1 l1 h => kk H1 l1 (by rw [gw_up_id hG] at h; exact h))
  by_cases hq : j = i.toNatClampNeg
  · subst hq; simpa [upd] using hP
  · simpa [upd, hq] using hf j hj
theorem gw_iastx (M : CallFix p m c cc nL s args tb own) (hK : gw_K D Hs s) (hI : gw_I D Hs G H0 H locs) {n : Nat} {f : Nat → Int32} (hG : G a = some (kx (.inl (D.2 0, n, .inl f)))) {i x : Int32} (hin : vp_in i n) (hdg : decode cc pc = .ok (.iastore, 1))
    (kk : ∀ (H1 : Heap) (locs1 : List Loc), gw_I D Hs (gw_up G a (kx (.inl (D.2 0, n, .inl (upd f i.toNatClampNeg x))))) H0 H1 locs1 → W p l e R s m args below meth c H1 locs1 cells slots Q (F0 m (pc + 1) ls rest)) : W p l e R s m args below meth c H locs cells slots Q (F0 m pc ls (.int x :: .int i :: .ref a :: rest)) := by
  obtain ⟨-, y, rfl, hx2⟩ := hI.1.2.2 a _ hG
  exact gw_iast0 M hK hI hG hx2 hin (kx _) rfl hdg kk
theorem gw_bald (M : CallFix p m c cc nL s args tb own) (hK : gw_K D Hs s) (hI : gw_I D Hs G H0 H locs) {n : Nat} {P : Int32 → Prop} (hG : G a = some (kA D 1 n P)) {i : Int32} (hin : vp_in i n) (hdg : decode cc pc = .ok (.baload, 1))
    (kk : ∀ x : Int32, P x → W p l e R s m args below meth c H locs cells slots Q (F0 m (pc + 1) ls (.int x :: rest))) : W p l e R s m args below meth c H locs cells slots Q (F0 m pc ls (.int i :: .ref a :: rest)) := by
  obtain ⟨-, x, ⟨f, hf, rfl⟩, hx2⟩ := hI.1.2.2 a _ hG
  have hlt : i.toNatClampNeg < n := Nat.not_le.mp fun q => hin (Or.inr q)
  exact va_bald M.1 M.2.1 hK.1 (gw_one hx2) 0 1 rfl rfl hin hdg (kk _ (hf _ hlt))
theorem gw_baldx (M : CallFix p m c cc nL s args tb own) (hK : gw_K D Hs s) (hI : gw_I D Hs G H0 H locs) {n : Nat} {f : Nat → Int32} (hG : G a = some (kx (.inl (D.2 1, n, .inl f)))) {i : Int32} (hin : vp_in i n) (hdg : decode cc pc = .ok (.baload, 1))
    (kk : W p l e R s m args below meth c H locs cells slots Q (F0 m (pc + 1) ls (.int (f i.toNatClampNeg) :: rest))) : W p l e R s m args below meth c H locs cells slots Q (F0 m pc ls (.int i :: .ref a :: rest)) := by
  obtain ⟨-, x, rfl, hx2⟩ := hI.1.2.2 a _ hG
  exact va_bald M.1 M.2.1 hK.1 (gw_one hx2) 0 1 rfl rfl hin hdg kk
theorem gw_bast0 (M : CallFix p m c cc nL s args tb own) (hK : gw_K D Hs s) (hI : gw_I D Hs G H0 H locs) {n : Nat} {f : Nat → Int32} (hG : G a = some K) (hat : gw_at D a (.inl (D.2 1, n, .inl f)) H) {i x : Int32} (hin : vp_in i n) (K' : va_E → Prop) (hk : K' (.inl (D.2 1, n, .inl (upd f i.toNatClampNeg (vp_nar .byte x))))) (hdg : decode cc pc = .ok (.bastore, 1))
    (kk : ∀ (H1 : Heap) (locs1 : List Loc), gw_I D Hs (gw_up G a K') H0 H1 locs1 → W p l e R s m args below meth c H1 locs1 cells slots Q (F0 m (pc + 1) ls rest)) : W p l e R s m args below meth c H locs cells slots Q (F0 m pc ls (.int x :: .int i :: .ref a :: rest)) := by
  have hA := (hI.1.2.2 a _ hG).1
  refine W.bast M.1 M.2.1 hat ((hK.1.2 1 _ rfl).1 n (fun j => .int (f j))) (fun q => by cases q) (by show ¬ (i < 0 ∨ (arrV _ _ _).slots.size ≤ _); rw [arrV_size]; exact hin) rfl rfl hdg fun H1 e1 z oq => ?_
  refine kk H1 _ ⟨hI.1.put hG (e := .inl (D.2 1, n, .inl (upd f i.toNatClampNeg (vp_nar .byte x)))) ?_ hk z oq, hI.2.put z oq hA⟩
  show H1[a]? = some (vp_cell _ _)
  rw [e1]
  rw [vp_cell_i, vp_cell_i, arrV_store]
  congr 2
  funext q
  by_cases hq : q = i.toNatClampNeg
  · subst hq
    simp [updV, upd, vp_nar]
    try rfl
  · simp [updV, upd, hq]
theorem gw_bast (M : CallFix p m c cc nL s args tb own) (hK : gw_K D Hs s) (hI : gw_I D Hs G H0 H locs) {n : Nat} {P : Int32 → Prop} (hG : G a = some (kA D 1 n P)) {i x : Int32} (hin : vp_in i n) (hP : P (vp_nar .byte x)) (hdg : decode cc pc = .ok (.bastore, 1))
    (kk : ∀ (H1 : Heap) (locs1 : List Loc), gw_I D Hs G H0 H1 locs1 → W p l e R s m args below meth c H1 locs1 cells slots Q (F0 m (pc + 1) ls rest)) : W p l e R s m args below meth c H locs cells slots Q (F0 m pc ls (.int x :: .int i :: .ref a :: rest)) := by
  obtain ⟨-, y, ⟨f, hf, rfl⟩, hx2⟩ := hI.1.2.2 a _ hG
  refine gw_bast0 M hK hI hG hx2 hin (kA D 1 n P) ⟨_, fun j hj => ?_, rfl⟩ hdg (fun H1 l1 h => kk H1 l1 (by rw [gw_up_id hG] at h; exact h))
  by_cases hq : j = i.toNatClampNeg
  · subst hq; simpa [upd] using hP
  · simpa [upd, hq] using hf j hj
theorem gw_bastx (M : CallFix p m c cc nL s args tb own) (hK : gw_K D Hs s) (hI : gw_I D Hs G H0 H locs) {n : Nat} {f : Nat → Int32} (hG : G a = some (kx (.inl (D.2 1, n, .inl f)))) {i x : Int32} (hin : vp_in i n) (hdg : decode cc pc = .ok (.bastore, 1))
    (kk : ∀ (H1 : Heap) (locs1 : List Loc), gw_I D Hs (gw_up G a (kx (.inl (D.2 1, n, .inl (upd f i.toNatClampNeg (vp_nar .byte x)))))) H0 H1 locs1 → W p l e R s m args below meth c H1 locs1 cells slots Q (F0 m (pc + 1) ls rest)) : W p l e R s m args below meth c H locs cells slots Q (F0 m pc ls (.int x :: .int i :: .ref a :: rest)) := by
  obtain ⟨-, y, rfl, hx2⟩ := hI.1.2.2 a _ hG
  exact gw_bast0 M hK hI hG hx2 hin (kx _) rfl hdg kk
theorem gw_zald (M : CallFix p m c cc nL s args tb own) (hK : gw_K D Hs s) (hI : gw_I D Hs G H0 H locs) {n : Nat} {P : Int32 → Prop} (hG : G a = some (kA D 2 n P)) {i : Int32} (hin : vp_in i n) (hdg : decode cc pc = .ok (.baload, 1))
    (kk : ∀ x : Int32, P x → W p l e R s m args below meth c H locs cells slots Q (F0 m (pc + 1) ls (.int x :: rest))) : W p l e R s m args below meth c H locs cells slots Q (F0 m pc ls (.int i :: .ref a :: rest)) := by
  obtain ⟨-, x, ⟨f, hf, rfl⟩, hx2⟩ := hI.1.2.2 a _ hG
  have hlt : i.toNatClampNeg < n := Nat.not_le.mp fun q => hin (Or.inr q)
  exact va_zald M.1 M.2.1 hK.1 (gw_one hx2) 0 2 rfl rfl hin hdg (kk _ (hf _ hlt))
theorem gw_zaldx (M : CallFix p m c cc nL s args tb own) (hK : gw_K D Hs s) (hI : gw_I D Hs G H0 H locs) {n : Nat} {f : Nat → Int32} (hG : G a = some (kx (.inl (D.2 2, n, .inl f)))) {i : Int32} (hin : vp_in i n) (hdg : decode cc pc = .ok (.baload, 1))
    (kk : W p l e R s m args below meth c H locs cells slots Q (F0 m (pc + 1) ls (.int (f i.toNatClampNeg) :: rest))) : W p l e R s m args below meth c H locs cells slots Q (F0 m pc ls (.int i :: .ref a :: rest)) := by
  obtain ⟨-, x, rfl, hx2⟩ := hI.1.2.2 a _ hG
  exact va_zald M.1 M.2.1 hK.1 (gw_one hx2) 0 2 rfl rfl hin hdg kk
theorem gw_zast0 (M : CallFix p m c cc nL s args tb own) (hK : gw_K D Hs s) (hI : gw_I D Hs G H0 H locs) {n : Nat} {f : Nat → Int32} (hG : G a = some K) (hat : gw_at D a (.inl (D.2 2, n, .inl f)) H) {i x : Int32} (hin : vp_in i n) (K' : va_E → Prop) (hk : K' (.inl (D.2 2, n, .inl (upd f i.toNatClampNeg (vp_nar .boolean x))))) (hdg : decode cc pc = .ok (.bastore, 1))
    (kk : ∀ (H1 : Heap) (locs1 : List Loc), gw_I D Hs (gw_up G a K') H0 H1 locs1 → W p l e R s m args below meth c H1 locs1 cells slots Q (F0 m (pc + 1) ls rest)) : W p l e R s m args below meth c H locs cells slots Q (F0 m pc ls (.int x :: .int i :: .ref a :: rest)) := by
  have hA := (hI.1.2.2 a _ hG).1
  refine W.zast M.1 M.2.1 hat ((hK.1.2 2 _ rfl).1 n (fun j => .int (f j))) (fun q => by cases q) (by show ¬ (i < 0 ∨ (arrV _ _ _).slots.size ≤ _); rw [arrV_size]; exact hin) rfl rfl hdg fun H1 e1 z oq => ?_
  refine kk H1 _ ⟨hI.1.put hG (e := .inl (D.2 2, n, .inl (upd f i.toNatClampNeg (vp_nar .boolean x)))) ?_ hk z oq, hI.2.put z oq hA⟩
  show H1[a]? = some (vp_cell _ _)
  rw [e1]
  rw [vp_cell_i, vp_cell_i, arrV_store]
  congr 2
  funext q
  by_cases hq : q = i.toNatClampNeg
  · subst hq
    simp [updV, upd, vp_nar]
    try rfl
  · simp [updV, upd, hq]
theorem gw_zast (M : CallFix p m c cc nL s args tb own) (hK : gw_K D Hs s) (hI : gw_I D Hs G H0 H locs) {n : Nat} {P : Int32 → Prop} (hG : G a = some (kA D 2 n P)) {i x : Int32} (hin : vp_in i n) (hP : P (vp_nar .boolean x)) (hdg : decode cc pc = .ok (.bastore, 1))
    (kk : ∀ (H1 : Heap) (locs1 : List Loc), gw_I D Hs G H0 H1 locs1 → W p l e R s m args below meth c H1 locs1 cells slots Q (F0 m (pc + 1) ls rest)) : W p l e R s m args below meth c H locs cells slots Q (F0 m pc ls (.int x :: .int i :: .ref a :: rest)) := by
  obtain ⟨-, y, ⟨f, hf, rfl⟩, hx2⟩ := hI.1.2.2 a _ hG
  refine gw_zast0 M hK hI hG hx2 hin (kA D 2 n P) ⟨_, fun j hj => ?_, rfl⟩ hdg (fun H1 l1 h => kk H1 l1 (by rw [gw_up_id hG] at h; exact h))
  by_cases hq : j = i.toNatClampNeg
  · subst hq; simpa [upd] using hP
  · simpa [upd, hq] using hf j hj
theorem gw_zastx (M : CallFix p m c cc nL s args tb own) (hK : gw_K D Hs s) (hI : gw_I D Hs G H0 H locs) {n : Nat} {f : Nat → Int32} (hG : G a = some (kx (.inl (D.2 2, n, .inl f)))) {i x : Int32} (hin : vp_in i n) (hdg : decode cc pc = .ok (.bastore, 1))
    (kk : ∀ (H1 : Heap) (locs1 : List Loc), gw_I D Hs (gw_up G a (kx (.inl (D.2 2, n, .inl (upd f i.toNatClampNeg (vp_nar .boolean x)))))) H0 H1 locs1 → W p l e R s m args below meth c H1 locs1 cells slots Q (F0 m (pc + 1) ls rest)) : W p l e R s m args below meth c H locs cells slots Q (F0 m pc ls (.int x :: .int i :: .ref a :: rest)) := by
  obtain ⟨-, y, rfl, hx2⟩ := hI.1.2.2 a _ hG
  exact gw_zast0 M hK hI hG hx2 hin (kx _) rfl hdg kk
theorem gw_lald (M : CallFix p m c cc nL s args tb own) (hK : gw_K D Hs s) (hI : gw_I D Hs G H0 H locs) {n : Nat} {P : Int64 → Prop} (hG : G a = some (kL D n P)) {i : Int32} (hin : vp_in i n) (hdg : decode cc pc = .ok (.laload, 1))
    (kk : ∀ x : Int64, P x → W p l e R s m args below meth c H locs cells slots Q (F0 m (pc + 1) ls (.long x :: rest))) : W p l e R s m args below meth c H locs cells slots Q (F0 m pc ls (.int i :: .ref a :: rest)) := by
  obtain ⟨-, x, ⟨f, hf, rfl⟩, hx2⟩ := hI.1.2.2 a _ hG
  have hlt : i.toNatClampNeg < n := Nat.not_le.mp fun q => hin (Or.inr q)
  exact va_lald M.1 M.2.1 hK.1 (gw_one hx2) 0 3 rfl rfl hin hdg (kk _ (hf _ hlt))
theorem gw_laldx (M : CallFix p m c cc nL s args tb own) (hK : gw_K D Hs s) (hI : gw_I D Hs G H0 H locs) {n : Nat} {f : Nat → Int64} (hG : G a = some (kx (.inl (D.2 3, n, .inr (.inl f))))) {i : Int32} (hin : vp_in i n) (hdg : decode cc pc = .ok (.laload, 1))
    (kk : W p l e R s m args below meth c H locs cells slots Q (F0 m (pc + 1) ls (.long (f i.toNatClampNeg) :: rest))) : W p l e R s m args below meth c H locs cells slots Q (F0 m pc ls (.int i :: .ref a :: rest)) := by
  obtain ⟨-, x, rfl, hx2⟩ := hI.1.2.2 a _ hG
  exact va_lald M.1 M.2.1 hK.1 (gw_one hx2) 0 3 rfl rfl hin hdg kk
theorem gw_last0 (M : CallFix p m c cc nL s args tb own) (hK : gw_K D Hs s) (hI : gw_I D Hs G H0 H locs) {n : Nat} {f : Nat → Int64} (hG : G a = some K) (hat : gw_at D a (.inl (D.2 3, n, .inr (.inl f))) H) {i : Int32} {x : Int64} (hin : vp_in i n) (K' : va_E → Prop) (hk : K' (.inl (D.2 3, n, .inr (.inl (vp_updL f i.toNatClampNeg x))))) (hdg : decode cc pc = .ok (.lastore, 1))
    (kk : ∀ (H1 : Heap) (locs1 : List Loc), gw_I D Hs (gw_up G a K') H0 H1 locs1 → W p l e R s m args below meth c H1 locs1 cells slots Q (F0 m (pc + 1) ls rest)) : W p l e R s m args below meth c H locs cells slots Q (F0 m pc ls (.long x :: .int i :: .ref a :: rest)) := by
  have hA := (hI.1.2.2 a _ hG).1
  refine W.last M.1 M.2.1 hat ((hK.1.2 3 _ rfl).1 n (fun j => .long (f j))) (fun q => by cases q) (by show ¬ (i < 0 ∨ (arrV _ _ _).slots.size ≤ _); rw [arrV_size]; exact hin) rfl rfl hdg fun H1 e1 z oq => ?_
  refine kk H1 _ ⟨hI.1.put hG (e := .inl (D.2 3, n, .inr (.inl (vp_updL f i.toNatClampNeg x)))) ?_ hk z oq, hI.2.put z oq hA⟩
  show H1[a]? = some (vp_cell _ _)
  rw [e1]
  rw [vp_cell_l, vp_cell_l, arrV_store]
  congr 2
  funext q
  by_cases hq : q = i.toNatClampNeg
  · subst hq
    simp [updV, vp_updL]
  · simp [updV, vp_updL, hq]
theorem gw_last (M : CallFix p m c cc nL s args tb own) (hK : gw_K D Hs s) (hI : gw_I D Hs G H0 H locs) {n : Nat} {P : Int64 → Prop} (hG : G a = some (kL D n P)) {i : Int32} {x : Int64} (hin : vp_in i n) (hP : P x) (hdg : decode cc pc = .ok (.lastore, 1))
    (kk : ∀ (H1 : Heap) (locs1 : List Loc), gw_I D Hs G H0 H1 locs1 → W p l e R s m args below meth c H1 locs1 cells slots Q (F0 m (pc + 1) ls rest)) : W p l e R s m args below meth c H locs cells slots Q (F0 m pc ls (.long x :: .int i :: .ref a :: rest)) := by
  obtain ⟨-, y, ⟨f, hf, rfl⟩, hx2⟩ := hI.1.2.2 a _ hG
  refine gw_last0 M hK hI hG hx2 hin (kL D n P) ⟨_, fun j hj => ?_, rfl⟩ hdg (fun H1 l1 h => kk H1 l1 (by rw [gw_up_id hG] at h; exact h))
  by_cases hq : j = i.toNatClampNeg
  · subst hq; simpa [vp_updL] using hP
  · simpa [vp_updL, hq] using hf j hj
theorem gw_lastx (M : CallFix p m c cc nL s args tb own) (hK : gw_K D Hs s) (hI : gw_I D Hs G H0 H locs) {n : Nat} {f : Nat → Int64} (hG : G a = some (kx (.inl (D.2 3, n, .inr (.inl f))))) {i : Int32} {x : Int64} (hin : vp_in i n) (hdg : decode cc pc = .ok (.lastore, 1))
    (kk : ∀ (H1 : Heap) (locs1 : List Loc), gw_I D Hs (gw_up G a (kx (.inl (D.2 3, n, .inr (.inl (vp_updL f i.toNatClampNeg x)))))) H0 H1 locs1 → W p l e R s m args below meth c H1 locs1 cells slots Q (F0 m (pc + 1) ls rest)) : W p l e R s m args below meth c H locs cells slots Q (F0 m pc ls (.long x :: .int i :: .ref a :: rest)) := by
  obtain ⟨-, y, rfl, hx2⟩ := hI.1.2.2 a _ hG
  exact gw_last0 M hK hI hG hx2 hin (kx _) rfl hdg kk
theorem gw_alen (M : CallFix p m c cc nL s args tb own) (hK : gw_K D Hs s) (hI : gw_I D Hs G H0 H locs) (hG : G a = some K) (t n : Nat) {ty : FieldType} (ht : (gw_ty D)[t]? = some (D.2 t, ty)) (hk : ∀ x, K x → ∃ z, x = .inl (D.2 t, n, z)) (hdg : decode cc pc = .ok (.arraylength, 1))
    (kk : W p l e R s m args below meth c H locs cells slots Q (F0 m (pc + 1) ls (.int (nI n) :: rest))) : W p l e R s m args below meth c H locs cells slots Q (F0 m pc ls (.ref a :: rest)) := by
  obtain ⟨-, x, hx1, hx2⟩ := hI.1.2.2 a _ hG
  obtain ⟨z, rfl⟩ := hk x hx1
  exact va_alen M.1 M.2.1 hK.1 (gw_one hx2) 0 t rfl ht rfl hdg kk
theorem gw_aald (M : CallFix p m c cc nL s args tb own) (hK : gw_K D Hs s) (hI : gw_I D Hs G H0 H locs) (t : Nat) {C : String} (ht : (gw_ty D)[t]? = some (D.2 t, .object C)) {n : Nat} {P : Nat → Nat → Prop} (hG : G a = some (kR D t n P)) {i : Int32} (hin : vp_in i n) (hdg : decode cc pc = .ok (.aaload, 1))
    (kk : ∀ b : Nat, P i.toNatClampNeg b → W p l e R s m args below meth c H locs cells slots Q (F0 m (pc + 1) ls (.ref b :: rest))) : W p l e R s m args below meth c H locs cells slots Q (F0 m pc ls (.int i :: .ref a :: rest)) := by
  obtain ⟨-, x, ⟨f, hf, rfl⟩, hx2⟩ := hI.1.2.2 a _ hG
  have hlt : i.toNatClampNeg < n := Nat.not_le.mp fun q => hin (Or.inr q)
  obtain ⟨b, hb1, hb2⟩ := hf _ hlt
  refine va_aldq M.1 M.2.1 hK.1 (gw_one hx2) 0 t rfl ht hin hdg ?_
  rw [hb1]
  exact kk b hb2
theorem gw_aast (M : CallFix p m c cc nL s args tb own) (hK : gw_K D Hs s) (hI : gw_I D Hs G H0 H locs) (t ci : Nat) {r : vw_C} (ht : (gw_ty D)[t]? = some (D.2 t, .object r.1)) (hc : gcl[ci]? = some r) {n v : Nat} {f : Nat → Option Nat} (hG : G a = some K) (hat : gw_at D a (.inl (D.2 t, n, .inr (.inr (.inr (.inr f))))) H) {K2 : va_E → Prop} (hV : G v = some K2) (hv : ∀ x, K2 x → ∃ fs, x = .inr (ci, fs)) {i : Int32} (hin : vp_in i n) (K' : va_E → Prop) (hk : K' (.inl (D.2 t, n, .inr (.inr (.inr (.inr (va_up f i.toNatClampNeg (some v)))))))) (hdg : decode cc pc = .ok (.aastore, 1))
    (kk : ∀ (H1 : Heap) (locs1 : List Loc), gw_I D Hs (gw_up G a K') H0 H1 locs1 → W p l e R s m args below meth c H1 locs1 cells slots Q (F0 m (pc + 1) ls rest)) : W p l e R s m args below meth c H locs cells slots Q (F0 m pc ls (.ref v :: .int i :: .ref a :: rest)) := by
  have hA := (hI.1.2.2 a _ hG).1
  have hlt : i.toNatClampNeg < n := Nat.not_le.mp fun q => hin (Or.inr q)
  have h0 : ¬ i < 0 := fun q => hin (Or.inl q)
  obtain ⟨-, y, hy1, hy2⟩ := hI.1.2.2 v _ hV
  obtain ⟨fs, rfl⟩ := hv y hy1
  obtain ⟨r', hr', cellV, g1, g2, g3, -⟩ := hy2
  have hcls := (hK.1.1 ci r hc).2
  obtain ⟨kA, comp, k1, k2, k3, -⟩ := (hK.1.2 t _ ht).2
  have hcomp : comp = D.1.1 ci := Option.some.inj (k3.symm.trans hcls.1)
  subst hcomp
  obtain ⟨kC, hkC, -⟩ := hcls.2
  refine W.aast M.1 M.2.1 hat (fun q h => by cases h) (fun h => by cases h) k1 k2 rfl hkC ⟨h0, by show _ < (arrV _ _ _).slots.size; rw [arrV_size]; exact hlt⟩ g1 (fun q h => by rw [g3] at h; cases h) (by rw [g2]; exact hkC) (by rw [g2]; exact va_assign hcls) rfl rfl hdg fun H1 e1 z oq => ?_
  refine kk H1 _ ⟨hI.1.put hG (e := .inl (D.2 t, n, .inr (.inr (.inr (.inr (va_up f i.toNatClampNeg (some v))))))) ?_ hk z oq, hI.2.put z oq hA⟩
  show H1[a]? = some (vp_cell _ _)
  rw [e1]
  rw [vp_cell_q, vp_cell_q, arrV_store]
  congr 2
  funext q
  by_cases hq : q = i.toNatClampNeg
  · subst hq
    simp [updV, va_up, va_rf]
  · simp [updV, va_up, hq]
theorem gw_S.new {A : Nat → Prop} {H H1 : Heap} (h : va_S A H0 H locs) (z : H1.size = H.size + 1) (o1 : ∀ q : Nat, q < H.size → H1[q]? = H[q]?) : va_S A H0 H1 locs := ⟨Nat.le_trans h.1 (by omega), fun x h1 h2 => (o1 x (Nat.lt_of_lt_of_le h1 h.1)).trans (h.2.1 x h1 h2), h.2.2⟩
theorem gw_newa (M : CallFix p m c cc nL s args tb own) (hK : gw_K D Hs s) (hI : gw_I D Hs G H0 H locs) {atype : ArrayType} (harr : Cond.arrayClass (newarray.typeOf atype) ∈ tb) (t : Nat) (ht : (gw_ty D)[t]? = some (D.2 t, newarray.typeOf atype)) (hra : ∀ (U : State) (cA : ClassId), va_RA U cA (newarray.typeOf atype) → U.vm.findClass ("[" ++ (newarray.typeOf atype).toString) = some cA)
    {n : Int32} {N' : Nat} {a0 : vp_A} (ha : ∀ cA : ClassId, vp_cell cA a0 = arrV cA N' (fun _ => defaultValue (newarray.typeOf atype))) (hn : ¬ n < 0) (hN : n.toNatClampNeg = N') (hbytes : N' * componentBytes (newarray.typeOf atype) ≤ 536870912) (hcells : cells + 1 ≤ R.cells) (hslots : slots + N' ≤ R.slots) (K' : va_E → Prop) (hk : K' (.inl (D.2 t, a0))) (hdg : decode cc pc = .ok (.newarray atype, 2))
    (kk : ∀ (q : Nat) (H1 : Heap), G q = none → gw_I D Hs (gw_up G q K') H0 H1 locs → W p l e R s m args below meth c H1 locs (cells + 1) (slots + N') Q (F0 m (pc + 2) ls (.ref q :: rest))) : W p l e R s m args below meth c H locs cells slots Q (F0 m pc ls (.int n :: rest)) := by
  refine va_newaK M.1 M.2.1 (M.2.2.2.2 _ harr) rfl hdg rfl hn hN hbytes hcells hslots rfl fun H1 cA e1 z1 o1 hAr hNm => ?_
  have hcA : cA = D.2 t := Option.some.inj (hNm.symm.trans (hra _ _ (hK.1.2 t _ ht).2))
  subst hcA
  refine kk H.size H1 hI.1.none ⟨hI.1.new (e := .inl (D.2 t, a0)) ?_ hk z1 o1, gw_S.new hI.2 z1 o1⟩
  show H1[H.size]? = some (vp_cell _ _)
  rw [ha]
  exact e1
theorem gw_newq (M : CallFix p m c cc nL s args tb own) (hK : gw_K D Hs s) (hI : gw_I D Hs G H0 H locs) {C : String} {index : Nat} (hclink : Cond.classLink own index C ∈ tb) (hover : va_AO C s) (t : Nat) (ht : (gw_ty D)[t]? = some (D.2 t, .object C))
    {n : Int32} {N' : Nat} (hn : ¬ n < 0) (hN : n.toNatClampNeg = N') (hbytes : N' * 4 ≤ 536870912) (hcells : cells + 1 ≤ R.cells) (hslots : slots + N' ≤ R.slots) (K' : va_E → Prop) (hk : K' (.inl (D.2 t, N', .inr (.inr (.inr (.inr (fun _ => none))))))) (hdg : decode cc pc = .ok (.anewarray index, 3))
    (kk : ∀ (q : Nat) (H1 : Heap), G q = none → gw_I D Hs (gw_up G q K') H0 H1 locs → W p l e R s m args below meth c H1 locs (cells + 1) (slots + N') Q (F0 m (pc + 3) ls (.ref q :: rest))) : W p l e R s m args below meth c H locs cells slots Q (F0 m pc ls (.int n :: rest)) := by
  subst hN
  refine W.anew M.1 M.2.1 M.2.2.2.1 (M.2.2.2.2 _ hclink) (va_AO.use hover) rfl hdg rfl hn hbytes hcells hslots fun cA kA comp f1 f2 f3 f4 => ?_
  obtain ⟨-, -, -, -, -, k4⟩ := (hK.1.2 t _ ht).2
  have hcA : cA = D.2 t := Option.some.inj (f1.symm.trans k4)
  subst hcA
  generalize hH1 : H.push ({ cls := D.2 t, slots := Array.replicate n.toNatClampNeg .null, vm := .none } : Cell) = H1
  have z1 : H1.size = H.size + 1 := by rw [← hH1, Array.size_push]
  have e1 : H1[H.size]? = some (arrV (D.2 t) n.toNatClampNeg (fun _ => .null)) := by rw [← hH1, Array.getElem?_push_size, ← arrV_new]
  have o1 : ∀ q : Nat, q < H.size → H1[q]? = H[q]? := fun q hq => by rw [← hH1, Array.getElem?_push, if_neg (Nat.ne_of_lt hq)]
  refine kk H.size H1 hI.1.none ⟨hI.1.new (e := .inl (D.2 t, n.toNatClampNeg, .inr (.inr (.inr (.inr (fun _ => none)))))) ?_ hk z1 o1, gw_S.new hI.2 z1 o1⟩
  show H1[H.size]? = some (vp_cell _ _)
  rw [e1]
  rfl
theorem gw_new (M : CallFix p m c cc nL s args tb own) (hK : gw_K D Hs s) (hI : gw_I D Hs G H0 H locs) {C : String} {T : u_T} {N ci index : Nat} (hin : ∀ w ∈ u_ws C T N, w ∈ tb) (ty : Nat → FieldType) (hty : ∀ k, k < N → parseFieldDescriptor (T k).2.2.1 = some (ty k)) (hcl : Cond.classLink own index C ∈ tb) (hinst : Cond.instantiable C N ∈ tb) (hini : Cond.initialized C ∈ tb)
    (hc : gcl[ci]? = some (C, T, N)) {fs : List Value} (hfs : ∀ j, j < N → defaultValue (ty j) = vp_V fs j) (hcells : cells + 1 ≤ R.cells) (hslots : slots + N ≤ R.slots) (hdg : decode cc pc = .ok (.new index, 3))
    (kk : ∀ (q : Nat) (H1 : Heap), G q = none → gw_I D Hs (gw_up G q (kx (.inr (ci, fs)))) H0 H1 locs → W p l e R s m args below meth c H1 locs (cells + 1) (slots + N) Q (F0 m (pc + 3) ls (.ref q :: rest))) : W p l e R s m args below meth c H locs cells slots Q (F0 m pc ls rest) := by
  have hts := M.2.2.2.2
  have hKn := hK.1.1 ci _ hc
  refine W.newcK M.1 M.2.1 M.2.2.2.1 (hts _ hcl) (hts _ hinst) (hts _ hini) rfl hdg hcells hslots hKn.2.1 rfl fun H1 kC hkC e1 z1 o1 => ?_
  exact kk H.size H1 hI.1.none ⟨hI.1.new (e := .inr (ci, fs)) ⟨_, hc, (u_born ty hts hin hKn hkC e1 hty).to hfs⟩ rfl z1 o1, gw_S.new hI.2 z1 o1⟩
end GWA
