/-- a call that is a function: answer v, then m1 -/
def RF (v : Option Value) (m1 : Mem) : Option Value → Mem → Prop := fun r m' => r = v ∧ m' = m1
def CVc (own : String) (i ci : Nat) (y : MD) (n : Nat) : Prop := CVi own i y n ∧ ∃ q : vw_C, cls[ci]? = some q ∧ q.1 = y.1.cls
def CUc (own : String) (i ci : Nat) (y : MD) (n : Nat) : Prop := ∃ (q : vw_C) (x : MethodName) (owner : String), cls[ci]? = some q ∧ CUi own i q.1 x owner y n
section JK
variable {l : Launch} {g : Gv} {d d' : Nat} {y y' : MD} {pc : Nat} {ls : List (Option Value)} {rest : List Value} {m m1 : Mem} {Q Q' : Option Value → Mem → Prop} {i a ci : Nat} {v : Value}
theorem j_st0 (pc' : Nat) (hdg : decode y.2.1 pc = .ok (.invokestatic i, 3)) (hp : pc + 3 = pc') (hd : Nat.blt d' d = true) (hc : CSt y.1.cls i y' 0) (hw : Nat.ble (rest.map fun v => v.category).sum 8 = true) (hM : JM l g d' y' [] m Q') (kk : ∀ r m', Q' r m' → J l g d y pc' ls (r.toList ++ rest) m' Q) : J l g d y pc ls (rest) m Q := by
  subst hp
  exact jg_static (As := []) (rest := rest) hdg (Nat.le_of_ble_eq_true hd) hc rfl hw hM kk
theorem j_st0f (pc' : Nat) (hdg : decode y.2.1 pc = .ok (.invokestatic i, 3)) (hp : pc + 3 = pc') (hd : Nat.blt d' d = true) (hc : CSt y.1.cls i y' 0) (hw : Nat.ble (rest.map fun v => v.category).sum 8 = true) (hM : JM l g d' y' [] m (RF (some v) m1)) (kk : J l g d y pc' ls (v :: rest) m1 Q) : J l g d y pc ls (rest) m Q :=
  j_st0 pc' hdg hp hd hc hw hM (fun r m' h => by obtain ⟨rfl, rfl⟩ := h; exact kk)
theorem j_st0v (pc' : Nat) (hdg : decode y.2.1 pc = .ok (.invokestatic i, 3)) (hp : pc + 3 = pc') (hd : Nat.blt d' d = true) (hc : CSt y.1.cls i y' 0) (hw : Nat.ble (rest.map fun v => v.category).sum 8 = true) (hM : JM l g d' y' [] m (RF none m1)) (kk : J l g d y pc' ls rest m1 Q) : J l g d y pc ls (rest) m Q :=
  j_st0 pc' hdg hp hd hc hw hM (fun r m' h => by obtain ⟨rfl, rfl⟩ := h; exact kk)
theorem j_vi0 (pc' : Nat) (hdg : decode y.2.1 pc = .ok (.invokevirtual i, 3)) (hp : pc + 3 = pc') (hd : Nat.blt d' d = true) (hc : CVc y.1.cls i ci y' 0) (ho : okC a ci = true) (hw : Nat.ble (rest.map fun v => v.category).sum 8 = true) (hM : JM l g d' y' [rf g a] m Q') (kk : ∀ r m', Q' r m' → J l g d y pc' ls (r.toList ++ rest) m' Q) : J l g d y pc ls (rf g a :: rest) m Q := by
  subst hp
  obtain ⟨q, hq1, hq2⟩ := id hc.2
  exact jg_virtual (As := []) (rest := rest) hdg (Nat.le_of_ble_eq_true hd) hc.1 ho hq1 hq2 rfl hw hM kk
theorem j_vi0f (pc' : Nat) (hdg : decode y.2.1 pc = .ok (.invokevirtual i, 3)) (hp : pc + 3 = pc') (hd : Nat.blt d' d = true) (hc : CVc y.1.cls i ci y' 0) (ho : okC a ci = true) (hw : Nat.ble (rest.map fun v => v.category).sum 8 = true) (hM : JM l g d' y' [rf g a] m (RF (some v) m1)) (kk : J l g d y pc' ls (v :: rest) m1 Q) : J l g d y pc ls (rf g a :: rest) m Q :=
  j_vi0 pc' hdg hp hd hc ho hw hM (fun r m' h => by obtain ⟨rfl, rfl⟩ := h; exact kk)
theorem j_vi0v (pc' : Nat) (hdg : decode y.2.1 pc = .ok (.invokevirtual i, 3)) (hp : pc + 3 = pc') (hd : Nat.blt d' d = true) (hc : CVc y.1.cls i ci y' 0) (ho : okC a ci = true) (hw : Nat.ble (rest.map fun v => v.category).sum 8 = true) (hM : JM l g d' y' [rf g a] m (RF none m1)) (kk : J l g d y pc' ls rest m1 Q) : J l g d y pc ls (rf g a :: rest) m Q :=
  j_vi0 pc' hdg hp hd hc ho hw hM (fun r m' h => by obtain ⟨rfl, rfl⟩ := h; exact kk)
theorem j_dy0 (pc' : Nat) (hdg : decode y.2.1 pc = .ok (.invokevirtual i, 3)) (hp : pc + 3 = pc') (hd : Nat.blt d' d = true) (hc : CUc y.1.cls i ci y' 0) (ho : okC a ci = true) (hw : Nat.ble (rest.map fun v => v.category).sum 8 = true) (hM : JM l g d' y' [rf g a] m Q') (kk : ∀ r m', Q' r m' → J l g d y pc' ls (r.toList ++ rest) m' Q) : J l g d y pc ls (rf g a :: rest) m Q := by
  subst hp
  obtain ⟨q, x, owner, hq1, hc⟩ := hc
  exact jg_dyn (As := []) (rest := rest) hdg (Nat.le_of_ble_eq_true hd) hq1 hc ho rfl hw hM kk
theorem j_dy0f (pc' : Nat) (hdg : decode y.2.1 pc = .ok (.invokevirtual i, 3)) (hp : pc + 3 = pc') (hd : Nat.blt d' d = true) (hc : CUc y.1.cls i ci y' 0) (ho : okC a ci = true) (hw : Nat.ble (rest.map fun v => v.category).sum 8 = true) (hM : JM l g d' y' [rf g a] m (RF (some v) m1)) (kk : J l g d y pc' ls (v :: rest) m1 Q) : J l g d y pc ls (rf g a :: rest) m Q :=
  j_dy0 pc' hdg hp hd hc ho hw hM (fun r m' h => by obtain ⟨rfl, rfl⟩ := h; exact kk)
theorem j_dy0v (pc' : Nat) (hdg : decode y.2.1 pc = .ok (.invokevirtual i, 3)) (hp : pc + 3 = pc') (hd : Nat.blt d' d = true) (hc : CUc y.1.cls i ci y' 0) (ho : okC a ci = true) (hw : Nat.ble (rest.map fun v => v.category).sum 8 = true) (hM : JM l g d' y' [rf g a] m (RF none m1)) (kk : J l g d y pc' ls rest m1 Q) : J l g d y pc ls (rf g a :: rest) m Q :=
  j_dy0 pc' hdg hp hd hc ho hw hM (fun r m' h => by obtain ⟨rfl, rfl⟩ := h; exact kk)
theorem j_su0 (pc' : Nat) (hdg : decode y.2.1 pc = .ok (.invokespecial i, 3)) (hp : pc + 3 = pc') (hd : Nat.blt d' d = true) (hc : CSu y.1.cls i y' 0) (ho : okC a ci = true) (hq1 : (cls[ci]?).isSome = true) (hw : Nat.ble (rest.map fun v => v.category).sum 8 = true) (hM : JM l g d' y' [rf g a] m Q') (kk : ∀ r m', Q' r m' → J l g d y pc' ls (r.toList ++ rest) m' Q) : J l g d y pc ls (rf g a :: rest) m Q := by
  subst hp
  obtain ⟨q, hq1⟩ := Option.isSome_iff_exists.mp hq1
  exact jg_super (As := []) (rest := rest) hdg (Nat.le_of_ble_eq_true hd) hq1 hc ho rfl hw hM kk
theorem j_su0f (pc' : Nat) (hdg : decode y.2.1 pc = .ok (.invokespecial i, 3)) (hp : pc + 3 = pc') (hd : Nat.blt d' d = true) (hc : CSu y.1.cls i y' 0) (ho : okC a ci = true) (hq1 : (cls[ci]?).isSome = true) (hw : Nat.ble (rest.map fun v => v.category).sum 8 = true) (hM : JM l g d' y' [rf g a] m (RF (some v) m1)) (kk : J l g d y pc' ls (v :: rest) m1 Q) : J l g d y pc ls (rf g a :: rest) m Q :=
  j_su0 pc' hdg hp hd hc ho hq1 hw hM (fun r m' h => by obtain ⟨rfl, rfl⟩ := h; exact kk)
theorem j_su0v (pc' : Nat) (hdg : decode y.2.1 pc = .ok (.invokespecial i, 3)) (hp : pc + 3 = pc') (hd : Nat.blt d' d = true) (hc : CSu y.1.cls i y' 0) (ho : okC a ci = true) (hq1 : (cls[ci]?).isSome = true) (hw : Nat.ble (rest.map fun v => v.category).sum 8 = true) (hM : JM l g d' y' [rf g a] m (RF none m1)) (kk : J l g d y pc' ls rest m1 Q) : J l g d y pc ls (rf g a :: rest) m Q :=
  j_su0 pc' hdg hp hd hc ho hq1 hw hM (fun r m' h => by obtain ⟨rfl, rfl⟩ := h; exact kk)
theorem j_st1 (pc' : Nat) {a0 : Value} (hdg : decode y.2.1 pc = .ok (.invokestatic i, 3)) (hp : pc + 3 = pc') (hd : Nat.blt d' d = true) (hc : CSt y.1.cls i y' 1) (hw : Nat.ble (rest.map fun v => v.category).sum 8 = true) (hM : JM l g d' y' [a0] m Q') (kk : ∀ r m', Q' r m' → J l g d y pc' ls (r.toList ++ rest) m' Q) : J l g d y pc ls (a0 :: rest) m Q := by
  subst hp
  exact jg_static (As := [a0]) (rest := rest) hdg (Nat.le_of_ble_eq_true hd) hc rfl hw hM kk
theorem j_st1f (pc' : Nat) {a0 : Value} (hdg : decode y.2.1 pc = .ok (.invokestatic i, 3)) (hp : pc + 3 = pc') (hd : Nat.blt d' d = true) (hc : CSt y.1.cls i y' 1) (hw : Nat.ble (rest.map fun v => v.category).sum 8 = true) (hM : JM l g d' y' [a0] m (RF (some v) m1)) (kk : J l g d y pc' ls (v :: rest) m1 Q) : J l g d y pc ls (a0 :: rest) m Q :=
  j_st1 pc' hdg hp hd hc hw hM (fun r m' h => by obtain ⟨rfl, rfl⟩ := h; exact kk)
theorem j_st1v (pc' : Nat) {a0 : Value} (hdg : decode y.2.1 pc = .ok (.invokestatic i, 3)) (hp : pc + 3 = pc') (hd : Nat.blt d' d = true) (hc : CSt y.1.cls i y' 1) (hw : Nat.ble (rest.map fun v => v.category).sum 8 = true) (hM : JM l g d' y' [a0] m (RF none m1)) (kk : J l g d y pc' ls rest m1 Q) : J l g d y pc ls (a0 :: rest) m Q :=
  j_st1 pc' hdg hp hd hc hw hM (fun r m' h => by obtain ⟨rfl, rfl⟩ := h; exact kk)
theorem j_vi1 (pc' : Nat) {a0 : Value} (hdg : decode y.2.1 pc = .ok (.invokevirtual i, 3)) (hp : pc + 3 = pc') (hd : Nat.blt d' d = true) (hc : CVc y.1.cls i ci y' 1) (ho : okC a ci = true) (hw : Nat.ble (rest.map fun v => v.category).sum 8 = true) (hM : JM l g d' y' [rf g a, a0] m Q') (kk : ∀ r m', Q' r m' → J l g d y pc' ls (r.toList ++ rest) m' Q) : J l g d y pc ls (a0 :: rf g a :: rest) m Q := by
  subst hp
  obtain ⟨q, hq1, hq2⟩ := id hc.2
  exact jg_virtual (As := [a0]) (rest := rest) hdg (Nat.le_of_ble_eq_true hd) hc.1 ho hq1 hq2 rfl hw hM kk
theorem j_vi1f (pc' : Nat) {a0 : Value} (hdg : decode y.2.1 pc = .ok (.invokevirtual i, 3)) (hp : pc + 3 = pc') (hd : Nat.blt d' d = true) (hc : CVc y.1.cls i ci y' 1) (ho : okC a ci = true) (hw : Nat.ble (rest.map fun v => v.category).sum 8 = true) (hM : JM l g d' y' [rf g a, a0] m (RF (some v) m1)) (kk : J l g d y pc' ls (v :: rest) m1 Q) : J l g d y pc ls (a0 :: rf g a :: rest) m Q :=
  j_vi1 pc' hdg hp hd hc ho hw hM (fun r m' h => by obtain ⟨rfl, rfl⟩ := h; exact kk)
theorem j_vi1v (pc' : Nat) {a0 : Value} (hdg : decode y.2.1 pc = .ok (.invokevirtual i, 3)) (hp : pc + 3 = pc') (hd : Nat.blt d' d = true) (hc : CVc y.1.cls i ci y' 1) (ho : okC a ci = true) (hw : Nat.ble (rest.map fun v => v.category).sum 8 = true) (hM : JM l g d' y' [rf g a, a0] m (RF none m1)) (kk : J l g d y pc' ls rest m1 Q) : J l g d y pc ls (a0 :: rf g a :: rest) m Q :=
  j_vi1 pc' hdg hp hd hc ho hw hM (fun r m' h => by obtain ⟨rfl, rfl⟩ := h; exact kk)
theorem j_dy1 (pc' : Nat) {a0 : Value} (hdg : decode y.2.1 pc = .ok (.invokevirtual i, 3)) (hp : pc + 3 = pc') (hd : Nat.blt d' d = true) (hc : CUc y.1.cls i ci y' 1) (ho : okC a ci = true) (hw : Nat.ble (rest.map fun v => v.category).sum 8 = true) (hM : JM l g d' y' [rf g a, a0] m Q') (kk : ∀ r m', Q' r m' → J l g d y pc' ls (r.toList ++ rest) m' Q) : J l g d y pc ls (a0 :: rf g a :: rest) m Q := by
  subst hp
  obtain ⟨q, x, owner, hq1, hc⟩ := hc
  exact jg_dyn (As := [a0]) (rest := rest) hdg (Nat.le_of_ble_eq_true hd) hq1 hc ho rfl hw hM kk
theorem j_dy1f (pc' : Nat) {a0 : Value} (hdg : decode y.2.1 pc = .ok (.invokevirtual i, 3)) (hp : pc + 3 = pc') (hd : Nat.blt d' d = true) (hc : CUc y.1.cls i ci y' 1) (ho : okC a ci = true) (hw : Nat.ble (rest.map fun v => v.category).sum 8 = true) (hM : JM l g d' y' [rf g a, a0] m (RF (some v) m1)) (kk : J l g d y pc' ls (v :: rest) m1 Q) : J l g d y pc ls (a0 :: rf g a :: rest) m Q :=
  j_dy1 pc' hdg hp hd hc ho hw hM (fun r m' h => by obtain ⟨rfl, rfl⟩ := h; exact kk)
theorem j_dy1v (pc' : Nat) {a0 : Value} (hdg : decode y.2.1 pc = .ok (.invokevirtual i, 3)) (hp : pc + 3 = pc') (hd : Nat.blt d' d = true) (hc : CUc y.1.cls i ci y' 1) (ho : okC a ci = true) (hw : Nat.ble (rest.map fun v => v.category).sum 8 = true) (hM : JM l g d' y' [rf g a, a0] m (RF none m1)) (kk : J l g d y pc' ls rest m1 Q) : J l g d y pc ls (a0 :: rf g a :: rest) m Q :=
  j_dy1 pc' hdg hp hd hc ho hw hM (fun r m' h => by obtain ⟨rfl, rfl⟩ := h; exact kk)
theorem j_su1 (pc' : Nat) {a0 : Value} (hdg : decode y.2.1 pc = .ok (.invokespecial i, 3)) (hp : pc + 3 = pc') (hd : Nat.blt d' d = true) (hc : CSu y.1.cls i y' 1) (ho : okC a ci = true) (hq1 : (cls[ci]?).isSome = true) (hw : Nat.ble (rest.map fun v => v.category).sum 8 = true) (hM : JM l g d' y' [rf g a, a0] m Q') (kk : ∀ r m', Q' r m' → J l g d y pc' ls (r.toList ++ rest) m' Q) : J l g d y pc ls (a0 :: rf g a :: rest) m Q := by
  subst hp
  obtain ⟨q, hq1⟩ := Option.isSome_iff_exists.mp hq1
  exact jg_super (As := [a0]) (rest := rest) hdg (Nat.le_of_ble_eq_true hd) hq1 hc ho rfl hw hM kk
theorem j_su1f (pc' : Nat) {a0 : Value} (hdg : decode y.2.1 pc = .ok (.invokespecial i, 3)) (hp : pc + 3 = pc') (hd : Nat.blt d' d = true) (hc : CSu y.1.cls i y' 1) (ho : okC a ci = true) (hq1 : (cls[ci]?).isSome = true) (hw : Nat.ble (rest.map fun v => v.category).sum 8 = true) (hM : JM l g d' y' [rf g a, a0] m (RF (some v) m1)) (kk : J l g d y pc' ls (v :: rest) m1 Q) : J l g d y pc ls (a0 :: rf g a :: rest) m Q :=
  j_su1 pc' hdg hp hd hc ho hq1 hw hM (fun r m' h => by obtain ⟨rfl, rfl⟩ := h; exact kk)
theorem j_su1v (pc' : Nat) {a0 : Value} (hdg : decode y.2.1 pc = .ok (.invokespecial i, 3)) (hp : pc + 3 = pc') (hd : Nat.blt d' d = true) (hc : CSu y.1.cls i y' 1) (ho : okC a ci = true) (hq1 : (cls[ci]?).isSome = true) (hw : Nat.ble (rest.map fun v => v.category).sum 8 = true) (hM : JM l g d' y' [rf g a, a0] m (RF none m1)) (kk : J l g d y pc' ls rest m1 Q) : J l g d y pc ls (a0 :: rf g a :: rest) m Q :=
  j_su1 pc' hdg hp hd hc ho hq1 hw hM (fun r m' h => by obtain ⟨rfl, rfl⟩ := h; exact kk)
theorem j_st2 (pc' : Nat) {a0 a1 : Value} (hdg : decode y.2.1 pc = .ok (.invokestatic i, 3)) (hp : pc + 3 = pc') (hd : Nat.blt d' d = true) (hc : CSt y.1.cls i y' 2) (hw : Nat.ble (rest.map fun v => v.category).sum 8 = true) (hM : JM l g d' y' [a0, a1] m Q') (kk : ∀ r m', Q' r m' → J l g d y pc' ls (r.toList ++ rest) m' Q) : J l g d y pc ls (a1 :: a0 :: rest) m Q := by
  subst hp
  exact jg_static (As := [a0, a1]) (rest := rest) hdg (Nat.le_of_ble_eq_true hd) hc rfl hw hM kk
theorem j_st2f (pc' : Nat) {a0 a1 : Value} (hdg : decode y.2.1 pc = .ok (.invokestatic i, 3)) (hp : pc + 3 = pc') (hd : Nat.blt d' d = true) (hc : CSt y.1.cls i y' 2) (hw : Nat.ble (rest.map fun v => v.category).sum 8 = true) (hM : JM l g d' y' [a0, a1] m (RF (some v) m1)) (kk : J l g d y pc' ls (v :: rest) m1 Q) : J l g d y pc ls (a1 :: a0 :: rest) m Q :=
  j_st2 pc' hdg hp hd hc hw hM (fun r m' h => by obtain ⟨rfl, rfl⟩ := h; exact kk)
theorem j_st2v (pc' : Nat) {a0 a1 : Value} (hdg : decode y.2.1 pc = .ok (.invokestatic i, 3)) (hp : pc + 3 = pc') (hd : Nat.blt d' d = true) (hc : CSt y.1.cls i y' 2) (hw : Nat.ble (rest.map fun v => v.category).sum 8 = true) (hM : JM l g d' y' [a0, a1] m (RF none m1)) (kk : J l g d y pc' ls rest m1 Q) : J l g d y pc ls (a1 :: a0 :: rest) m Q :=
  j_st2 pc' hdg hp hd hc hw hM (fun r m' h => by obtain ⟨rfl, rfl⟩ := h; exact kk)
theorem j_vi2 (pc' : Nat) {a0 a1 : Value} (hdg : decode y.2.1 pc = .ok (.invokevirtual i, 3)) (hp : pc + 3 = pc') (hd : Nat.blt d' d = true) (hc : CVc y.1.cls i ci y' 2) (ho : okC a ci = true) (hw : Nat.ble (rest.map fun v => v.category).sum 8 = true) (hM : JM l g d' y' [rf g a, a0, a1] m Q') (kk : ∀ r m', Q' r m' → J l g d y pc' ls (r.toList ++ rest) m' Q) : J l g d y pc ls (a1 :: a0 :: rf g a :: rest) m Q := by
  subst hp
  obtain ⟨q, hq1, hq2⟩ := id hc.2
  exact jg_virtual (As := [a0, a1]) (rest := rest) hdg (Nat.le_of_ble_eq_true hd) hc.1 ho hq1 hq2 rfl hw hM kk
theorem j_vi2f (pc' : Nat) {a0 a1 : Value} (hdg : decode y.2.1 pc = .ok (.invokevirtual i, 3)) (hp : pc + 3 = pc') (hd : Nat.blt d' d = true) (hc : CVc y.1.cls i ci y' 2) (ho : okC a ci = true) (hw : Nat.ble (rest.map fun v => v.category).sum 8 = true) (hM : JM l g d' y' [rf g a, a0, a1] m (RF (some v) m1)) (kk : J l g d y pc' ls (v :: rest) m1 Q) : J l g d y pc ls (a1 :: a0 :: rf g a :: rest) m Q :=
  j_vi2 pc' hdg hp hd hc ho hw hM (fun r m' h => by obtain ⟨rfl, rfl⟩ := h; exact kk)
theorem j_vi2v (pc' : Nat) {a0 a1 : Value} (hdg : decode y.2.1 pc = .ok (.invokevirtual i, 3)) (hp : pc + 3 = pc') (hd : Nat.blt d' d = true) (hc : CVc y.1.cls i ci y' 2) (ho : okC a ci = true) (hw : Nat.ble (rest.map fun v => v.category).sum 8 = true) (hM : JM l g d' y' [rf g a, a0, a1] m (RF none m1)) (kk : J l g d y pc' ls rest m1 Q) : J l g d y pc ls (a1 :: a0 :: rf g a :: rest) m Q :=
  j_vi2 pc' hdg hp hd hc ho hw hM (fun r m' h => by obtain ⟨rfl, rfl⟩ := h; exact kk)
theorem j_dy2 (pc' : Nat) {a0 a1 : Value} (hdg : decode y.2.1 pc = .ok (.invokevirtual i, 3)) (hp : pc + 3 = pc') (hd : Nat.blt d' d = true) (hc : CUc y.1.cls i ci y' 2) (ho : okC a ci = true) (hw : Nat.ble (rest.map fun v => v.category).sum 8 = true) (hM : JM l g d' y' [rf g a, a0, a1] m Q') (kk : ∀ r m', Q' r m' → J l g d y pc' ls (r.toList ++ rest) m' Q) : J l g d y pc ls (a1 :: a0 :: rf g a :: rest) m Q := by
  subst hp
  obtain ⟨q, x, owner, hq1, hc⟩ := hc
  exact jg_dyn (As := [a0, a1]) (rest := rest) hdg (Nat.le_of_ble_eq_true hd) hq1 hc ho rfl hw hM kk
theorem j_dy2f (pc' : Nat) {a0 a1 : Value} (hdg : decode y.2.1 pc = .ok (.invokevirtual i, 3)) (hp : pc + 3 = pc') (hd : Nat.blt d' d = true) (hc : CUc y.1.cls i ci y' 2) (ho : okC a ci = true) (hw : Nat.ble (rest.map fun v => v.category).sum 8 = true) (hM : JM l g d' y' [rf g a, a0, a1] m (RF (some v) m1)) (kk : J l g d y pc' ls (v :: rest) m1 Q) : J l g d y pc ls (a1 :: a0 :: rf g a :: rest) m Q :=
  j_dy2 pc' hdg hp hd hc ho hw hM (fun r m' h => by obtain ⟨rfl, rfl⟩ := h; exact kk)
theorem j_dy2v (pc' : Nat) {a0 a1 : Value} (hdg : decode y.2.1 pc = .ok (.invokevirtual i, 3)) (hp : pc + 3 = pc') (hd : Nat.blt d' d = true) (hc : CUc y.1.cls i ci y' 2) (ho : okC a ci = true) (hw : Nat.ble (rest.map fun v => v.category).sum 8 = true) (hM : JM l g d' y' [rf g a, a0, a1] m (RF none m1)) (kk : J l g d y pc' ls rest m1 Q) : J l g d y pc ls (a1 :: a0 :: rf g a :: rest) m Q :=
  j_dy2 pc' hdg hp hd hc ho hw hM (fun r m' h => by obtain ⟨rfl, rfl⟩ := h; exact kk)
theorem j_su2 (pc' : Nat) {a0 a1 : Value} (hdg : decode y.2.1 pc = .ok (.invokespecial i, 3)) (hp : pc + 3 = pc') (hd : Nat.blt d' d = true) (hc : CSu y.1.cls i y' 2) (ho : okC a ci = true) (hq1 : (cls[ci]?).isSome = true) (hw : Nat.ble (rest.map fun v => v.category).sum 8 = true) (hM : JM l g d' y' [rf g a, a0, a1] m Q') (kk : ∀ r m', Q' r m' → J l g d y pc' ls (r.toList ++ rest) m' Q) : J l g d y pc ls (a1 :: a0 :: rf g a :: rest) m Q := by
  subst hp
  obtain ⟨q, hq1⟩ := Option.isSome_iff_exists.mp hq1
  exact jg_super (As := [a0, a1]) (rest := rest) hdg (Nat.le_of_ble_eq_true hd) hq1 hc ho rfl hw hM kk
theorem j_su2f (pc' : Nat) {a0 a1 : Value} (hdg : decode y.2.1 pc = .ok (.invokespecial i, 3)) (hp : pc + 3 = pc') (hd : Nat.blt d' d = true) (hc : CSu y.1.cls i y' 2) (ho : okC a ci = true) (hq1 : (cls[ci]?).isSome = true) (hw : Nat.ble (rest.map fun v => v.category).sum 8 = true) (hM : JM l g d' y' [rf g a, a0, a1] m (RF (some v) m1)) (kk : J l g d y pc' ls (v :: rest) m1 Q) : J l g d y pc ls (a1 :: a0 :: rf g a :: rest) m Q :=
  j_su2 pc' hdg hp hd hc ho hq1 hw hM (fun r m' h => by obtain ⟨rfl, rfl⟩ := h; exact kk)
theorem j_su2v (pc' : Nat) {a0 a1 : Value} (hdg : decode y.2.1 pc = .ok (.invokespecial i, 3)) (hp : pc + 3 = pc') (hd : Nat.blt d' d = true) (hc : CSu y.1.cls i y' 2) (ho : okC a ci = true) (hq1 : (cls[ci]?).isSome = true) (hw : Nat.ble (rest.map fun v => v.category).sum 8 = true) (hM : JM l g d' y' [rf g a, a0, a1] m (RF none m1)) (kk : J l g d y pc' ls rest m1 Q) : J l g d y pc ls (a1 :: a0 :: rf g a :: rest) m Q :=
  j_su2 pc' hdg hp hd hc ho hq1 hw hM (fun r m' h => by obtain ⟨rfl, rfl⟩ := h; exact kk)
theorem j_st3 (pc' : Nat) {a0 a1 a2 : Value} (hdg : decode y.2.1 pc = .ok (.invokestatic i, 3)) (hp : pc + 3 = pc') (hd : Nat.blt d' d = true) (hc : CSt y.1.cls i y' 3) (hw : Nat.ble (rest.map fun v => v.category).sum 8 = true) (hM : JM l g d' y' [a0, a1, a2] m Q') (kk : ∀ r m', Q' r m' → J l g d y pc' ls (r.toList ++ rest) m' Q) : J l g d y pc ls (a2 :: a1 :: a0 :: rest) m Q := by
  subst hp
  exact jg_static (As := [a0, a1, a2]) (rest := rest) hdg (Nat.le_of_ble_eq_true hd) hc rfl hw hM kk
theorem j_st3f (pc' : Nat) {a0 a1 a2 : Value} (hdg : decode y.2.1 pc = .ok (.invokestatic i, 3)) (hp : pc + 3 = pc') (hd : Nat.blt d' d = true) (hc : CSt y.1.cls i y' 3) (hw : Nat.ble (rest.map fun v => v.category).sum 8 = true) (hM : JM l g d' y' [a0, a1, a2] m (RF (some v) m1)) (kk : J l g d y pc' ls (v :: rest) m1 Q) : J l g d y pc ls (a2 :: a1 :: a0 :: rest) m Q :=
  j_st3 pc' hdg hp hd hc hw hM (fun r m' h => by obtain ⟨rfl, rfl⟩ := h; exact kk)
theorem j_st3v (pc' : Nat) {a0 a1 a2 : Value} (hdg : decode y.2.1 pc = .ok (.invokestatic i, 3)) (hp : pc + 3 = pc') (hd : Nat.blt d' d = true) (hc : CSt y.1.cls i y' 3) (hw : Nat.ble (rest.map fun v => v.category).sum 8 = true) (hM : JM l g d' y' [a0, a1, a2] m (RF none m1)) (kk : J l g d y pc' ls rest m1 Q) : J l g d y pc ls (a2 :: a1 :: a0 :: rest) m Q :=
  j_st3 pc' hdg hp hd hc hw hM (fun r m' h => by obtain ⟨rfl, rfl⟩ := h; exact kk)
theorem j_vi3 (pc' : Nat) {a0 a1 a2 : Value} (hdg : decode y.2.1 pc = .ok (.invokevirtual i, 3)) (hp : pc + 3 = pc') (hd : Nat.blt d' d = true) (hc : CVc y.1.cls i ci y' 3) (ho : okC a ci = true) (hw : Nat.ble (rest.map fun v => v.category).sum 8 = true) (hM : JM l g d' y' [rf g a, a0, a1, a2] m Q') (kk : ∀ r m', Q' r m' → J l g d y pc' ls (r.toList ++ rest) m' Q) : J l g d y pc ls (a2 :: a1 :: a0 :: rf g a :: rest) m Q := by
  subst hp
  obtain ⟨q, hq1, hq2⟩ := id hc.2
  exact jg_virtual (As := [a0, a1, a2]) (rest := rest) hdg (Nat.le_of_ble_eq_true hd) hc.1 ho hq1 hq2 rfl hw hM kk
theorem j_vi3f (pc' : Nat) {a0 a1 a2 : Value} (hdg : decode y.2.1 pc = .ok (.invokevirtual i, 3)) (hp : pc + 3 = pc') (hd : Nat.blt d' d = true) (hc : CVc y.1.cls i ci y' 3) (ho : okC a ci = true) (hw : Nat.ble (rest.map fun v => v.category).sum 8 = true) (hM : JM l g d' y' [rf g a, a0, a1, a2] m (RF (some v) m1)) (kk : J l g d y pc' ls (v :: rest) m1 Q) : J l g d y pc ls (a2 :: a1 :: a0 :: rf g a :: rest) m Q :=
  j_vi3 pc' hdg hp hd hc ho hw hM (fun r m' h => by obtain ⟨rfl, rfl⟩ := h; exact kk)
theorem j_vi3v (pc' : Nat) {a0 a1 a2 : Value} (hdg : decode y.2.1 pc = .ok (.invokevirtual i, 3)) (hp : pc + 3 = pc') (hd : Nat.blt d' d = true) (hc : CVc y.1.cls i ci y' 3) (ho : okC a ci = true) (hw : Nat.ble (rest.map fun v => v.category).sum 8 = true) (hM : JM l g d' y' [rf g a, a0, a1, a2] m (RF none m1)) (kk : J l g d y pc' ls rest m1 Q) : J l g d y pc ls (a2 :: a1 :: a0 :: rf g a :: rest) m Q :=
  j_vi3 pc' hdg hp hd hc ho hw hM (fun r m' h => by obtain ⟨rfl, rfl⟩ := h; exact kk)
theorem j_dy3 (pc' : Nat) {a0 a1 a2 : Value} (hdg : decode y.2.1 pc = .ok (.invokevirtual i, 3)) (hp : pc + 3 = pc') (hd : Nat.blt d' d = true) (hc : CUc y.1.cls i ci y' 3) (ho : okC a ci = true) (hw : Nat.ble (rest.map fun v => v.category).sum 8 = true) (hM : JM l g d' y' [rf g a, a0, a1, a2] m Q') (kk : ∀ r m', Q' r m' → J l g d y pc' ls (r.toList ++ rest) m' Q) : J l g d y pc ls (a2 :: a1 :: a0 :: rf g a :: rest) m Q := by
  subst hp
  obtain ⟨q, x, owner, hq1, hc⟩ := hc
  exact jg_dyn (As := [a0, a1, a2]) (rest := rest) hdg (Nat.le_of_ble_eq_true hd) hq1 hc ho rfl hw hM kk
theorem j_dy3f (pc' : Nat) {a0 a1 a2 : Value} (hdg : decode y.2.1 pc = .ok (.invokevirtual i, 3)) (hp : pc + 3 = pc') (hd : Nat.blt d' d = true) (hc : CUc y.1.cls i ci y' 3) (ho : okC a ci = true) (hw : Nat.ble (rest.map fun v => v.category).sum 8 = true) (hM : JM l g d' y' [rf g a, a0, a1, a2] m (RF (some v) m1)) (kk : J l g d y pc' ls (v :: rest) m1 Q) : J l g d y pc ls (a2 :: a1 :: a0 :: rf g a :: rest) m Q :=
  j_dy3 pc' hdg hp hd hc ho hw hM (fun r m' h => by obtain ⟨rfl, rfl⟩ := h; exact kk)
theorem j_dy3v (pc' : Nat) {a0 a1 a2 : Value} (hdg : decode y.2.1 pc = .ok (.invokevirtual i, 3)) (hp : pc + 3 = pc') (hd : Nat.blt d' d = true) (hc : CUc y.1.cls i ci y' 3) (ho : okC a ci = true) (hw : Nat.ble (rest.map fun v => v.category).sum 8 = true) (hM : JM l g d' y' [rf g a, a0, a1, a2] m (RF none m1)) (kk : J l g d y pc' ls rest m1 Q) : J l g d y pc ls (a2 :: a1 :: a0 :: rf g a :: rest) m Q :=
  j_dy3 pc' hdg hp hd hc ho hw hM (fun r m' h => by obtain ⟨rfl, rfl⟩ := h; exact kk)
theorem j_su3 (pc' : Nat) {a0 a1 a2 : Value} (hdg : decode y.2.1 pc = .ok (.invokespecial i, 3)) (hp : pc + 3 = pc') (hd : Nat.blt d' d = true) (hc : CSu y.1.cls i y' 3) (ho : okC a ci = true) (hq1 : (cls[ci]?).isSome = true) (hw : Nat.ble (rest.map fun v => v.category).sum 8 = true) (hM : JM l g d' y' [rf g a, a0, a1, a2] m Q') (kk : ∀ r m', Q' r m' → J l g d y pc' ls (r.toList ++ rest) m' Q) : J l g d y pc ls (a2 :: a1 :: a0 :: rf g a :: rest) m Q := by
  subst hp
  obtain ⟨q, hq1⟩ := Option.isSome_iff_exists.mp hq1
  exact jg_super (As := [a0, a1, a2]) (rest := rest) hdg (Nat.le_of_ble_eq_true hd) hq1 hc ho rfl hw hM kk
theorem j_su3f (pc' : Nat) {a0 a1 a2 : Value} (hdg : decode y.2.1 pc = .ok (.invokespecial i, 3)) (hp : pc + 3 = pc') (hd : Nat.blt d' d = true) (hc : CSu y.1.cls i y' 3) (ho : okC a ci = true) (hq1 : (cls[ci]?).isSome = true) (hw : Nat.ble (rest.map fun v => v.category).sum 8 = true) (hM : JM l g d' y' [rf g a, a0, a1, a2] m (RF (some v) m1)) (kk : J l g d y pc' ls (v :: rest) m1 Q) : J l g d y pc ls (a2 :: a1 :: a0 :: rf g a :: rest) m Q :=
  j_su3 pc' hdg hp hd hc ho hq1 hw hM (fun r m' h => by obtain ⟨rfl, rfl⟩ := h; exact kk)
theorem j_su3v (pc' : Nat) {a0 a1 a2 : Value} (hdg : decode y.2.1 pc = .ok (.invokespecial i, 3)) (hp : pc + 3 = pc') (hd : Nat.blt d' d = true) (hc : CSu y.1.cls i y' 3) (ho : okC a ci = true) (hq1 : (cls[ci]?).isSome = true) (hw : Nat.ble (rest.map fun v => v.category).sum 8 = true) (hM : JM l g d' y' [rf g a, a0, a1, a2] m (RF none m1)) (kk : J l g d y pc' ls rest m1 Q) : J l g d y pc ls (a2 :: a1 :: a0 :: rf g a :: rest) m Q :=
  j_su3 pc' hdg hp hd hc ho hq1 hw hM (fun r m' h => by obtain ⟨rfl, rfl⟩ := h; exact kk)
theorem j_st4 (pc' : Nat) {a0 a1 a2 a3 : Value} (hdg : decode y.2.1 pc = .ok (.invokestatic i, 3)) (hp : pc + 3 = pc') (hd : Nat.blt d' d = true) (hc : CSt y.1.cls i y' 4) (hw : Nat.ble (rest.map fun v => v.category).sum 8 = true) (hM : JM l g d' y' [a0, a1, a2, a3] m Q') (kk : ∀ r m', Q' r m' → J l g d y pc' ls (r.toList ++ rest) m' Q) : J l g d y pc ls (a3 :: a2 :: a1 :: a0 :: rest) m Q := by
  subst hp
  exact jg_static (As := [a0, a1, a2, a3]) (rest := rest) hdg (Nat.le_of_ble_eq_true hd) hc rfl hw hM kk
theorem j_st4f (pc' : Nat) {a0 a1 a2 a3 : Value} (hdg : decode y.2.1 pc = .ok (.invokestatic i, 3)) (hp : pc + 3 = pc') (hd : Nat.blt d' d = true) (hc : CSt y.1.cls i y' 4) (hw : Nat.ble (rest.map fun v => v.category).sum 8 = true) (hM : JM l g d' y' [a0, a1, a2, a3] m (RF (some v) m1)) (kk : J l g d y pc' ls (v :: rest) m1 Q) : J l g d y pc ls (a3 :: a2 :: a1 :: a0 :: rest) m Q :=
  j_st4 pc' hdg hp hd hc hw hM (fun r m' h => by obtain ⟨rfl, rfl⟩ := h; exact kk)
theorem j_st4v (pc' : Nat) {a0 a1 a2 a3 : Value} (hdg : decode y.2.1 pc = .ok (.invokestatic i, 3)) (hp : pc + 3 = pc') (hd : Nat.blt d' d = true) (hc : CSt y.1.cls i y' 4) (hw : Nat.ble (rest.map fun v => v.category).sum 8 = true) (hM : JM l g d' y' [a0, a1, a2, a3] m (RF none m1)) (kk : J l g d y pc' ls rest m1 Q) : J l g d y pc ls (a3 :: a2 :: a1 :: a0 :: rest) m Q :=
  j_st4 pc' hdg hp hd hc hw hM (fun r m' h => by obtain ⟨rfl, rfl⟩ := h; exact kk)
theorem j_vi4 (pc' : Nat) {a0 a1 a2 a3 : Value} (hdg : decode y.2.1 pc = .ok (.invokevirtual i, 3)) (hp : pc + 3 = pc') (hd : Nat.blt d' d = true) (hc : CVc y.1.cls i ci y' 4) (ho : okC a ci = true) (hw : Nat.ble (rest.map fun v => v.category).sum 8 = true) (hM : JM l g d' y' [rf g a, a0, a1, a2, a3] m Q') (kk : ∀ r m', Q' r m' → J l g d y pc' ls (r.toList ++ rest) m' Q) : J l g d y pc ls (a3 :: a2 :: a1 :: a0 :: rf g a :: rest) m Q := by
  subst hp
  obtain ⟨q, hq1, hq2⟩ := id hc.2
  exact jg_virtual (As := [a0, a1, a2, a3]) (rest := rest) hdg (Nat.le_of_ble_eq_true hd) hc.1 ho hq1 hq2 rfl hw hM kk
theorem j_vi4f (pc' : Nat) {a0 a1 a2 a3 : Value} (hdg : decode y.2.1 pc = .ok (.invokevirtual i, 3)) (hp : pc + 3 = pc') (hd : Nat.blt d' d = true) (hc : CVc y.1.cls i ci y' 4) (ho : okC a ci = true) (hw : Nat.ble (rest.map fun v => v.category).sum 8 = true) (hM : JM l g d' y' [rf g a, a0, a1, a2, a3] m (RF (some v) m1)) (kk : J l g d y pc' ls (v :: rest) m1 Q) : J l g d y pc ls (a3 :: a2 :: a1 :: a0 :: rf g a :: rest) m Q :=
  j_vi4 pc' hdg hp hd hc ho hw hM (fun r m' h => by obtain ⟨rfl, rfl⟩ := h; exact kk)
theorem j_vi4v (pc' : Nat) {a0 a1 a2 a3 : Value} (hdg : decode y.2.1 pc = .ok (.invokevirtual i, 3)) (hp : pc + 3 = pc') (hd : Nat.blt d' d = true) (hc : CVc y.1.cls i ci y' 4) (ho : okC a ci = true) (hw : Nat.ble (rest.map fun v => v.category).sum 8 = true) (hM : JM l g d' y' [rf g a, a0, a1, a2, a3] m (RF none m1)) (kk : J l g d y pc' ls rest m1 Q) : J l g d y pc ls (a3 :: a2 :: a1 :: a0 :: rf g a :: rest) m Q :=
  j_vi4 pc' hdg hp hd hc ho hw hM (fun r m' h => by obtain ⟨rfl, rfl⟩ := h; exact kk)
theorem j_dy4 (pc' : Nat) {a0 a1 a2 a3 : Value} (hdg : decode y.2.1 pc = .ok (.invokevirtual i, 3)) (hp : pc + 3 = pc') (hd : Nat.blt d' d = true) (hc : CUc y.1.cls i ci y' 4) (ho : okC a ci = true) (hw : Nat.ble (rest.map fun v => v.category).sum 8 = true) (hM : JM l g d' y' [rf g a, a0, a1, a2, a3] m Q') (kk : ∀ r m', Q' r m' → J l g d y pc' ls (r.toList ++ rest) m' Q) : J l g d y pc ls (a3 :: a2 :: a1 :: a0 :: rf g a :: rest) m Q := by
  subst hp
  obtain ⟨q, x, owner, hq1, hc⟩ := hc
  exact jg_dyn (As := [a0, a1, a2, a3]) (rest := rest) hdg (Nat.le_of_ble_eq_true hd) hq1 hc ho rfl hw hM kk
theorem j_dy4f (pc' : Nat) {a0 a1 a2 a3 : Value} (hdg : decode y.2.1 pc = .ok (.invokevirtual i, 3)) (hp : pc + 3 = pc') (hd : Nat.blt d' d = true) (hc : CUc y.1.cls i ci y' 4) (ho : okC a ci = true) (hw : Nat.ble (rest.map fun v => v.category).sum 8 = true) (hM : JM l g d' y' [rf g a, a0, a1, a2, a3] m (RF (some v) m1)) (kk : J l g d y pc' ls (v :: rest) m1 Q) : J l g d y pc ls (a3 :: a2 :: a1 :: a0 :: rf g a :: rest) m Q :=
  j_dy4 pc' hdg hp hd hc ho hw hM (fun r m' h => by obtain ⟨rfl, rfl⟩ := h; exact kk)
theorem j_dy4v (pc' : Nat) {a0 a1 a2 a3 : Value} (hdg : decode y.2.1 pc = .ok (.invokevirtual i, 3)) (hp : pc + 3 = pc') (hd : Nat.blt d' d = true) (hc : CUc y.1.cls i ci y' 4) (ho : okC a ci = true) (hw : Nat.ble (rest.map fun v => v.category).sum 8 = true) (hM : JM l g d' y' [rf g a, a0, a1, a2, a3] m (RF none m1)) (kk : J l g d y pc' ls rest m1 Q) : J l g d y pc ls (a3 :: a2 :: a1 :: a0 :: rf g a :: rest) m Q :=
  j_dy4 pc' hdg hp hd hc ho hw hM (fun r m' h => by obtain ⟨rfl, rfl⟩ := h; exact kk)
theorem j_su4 (pc' : Nat) {a0 a1 a2 a3 : Value} (hdg : decode y.2.1 pc = .ok (.invokespecial i, 3)) (hp : pc + 3 = pc') (hd : Nat.blt d' d = true) (hc : CSu y.1.cls i y' 4) (ho : okC a ci = true) (hq1 : (cls[ci]?).isSome = true) (hw : Nat.ble (rest.map fun v => v.category).sum 8 = true) (hM : JM l g d' y' [rf g a, a0, a1, a2, a3] m Q') (kk : ∀ r m', Q' r m' → J l g d y pc' ls (r.toList ++ rest) m' Q) : J l g d y pc ls (a3 :: a2 :: a1 :: a0 :: rf g a :: rest) m Q := by
  subst hp
  obtain ⟨q, hq1⟩ := Option.isSome_iff_exists.mp hq1
  exact jg_super (As := [a0, a1, a2, a3]) (rest := rest) hdg (Nat.le_of_ble_eq_true hd) hq1 hc ho rfl hw hM kk
theorem j_su4f (pc' : Nat) {a0 a1 a2 a3 : Value} (hdg : decode y.2.1 pc = .ok (.invokespecial i, 3)) (hp : pc + 3 = pc') (hd : Nat.blt d' d = true) (hc : CSu y.1.cls i y' 4) (ho : okC a ci = true) (hq1 : (cls[ci]?).isSome = true) (hw : Nat.ble (rest.map fun v => v.category).sum 8 = true) (hM : JM l g d' y' [rf g a, a0, a1, a2, a3] m (RF (some v) m1)) (kk : J l g d y pc' ls (v :: rest) m1 Q) : J l g d y pc ls (a3 :: a2 :: a1 :: a0 :: rf g a :: rest) m Q :=
  j_su4 pc' hdg hp hd hc ho hq1 hw hM (fun r m' h => by obtain ⟨rfl, rfl⟩ := h; exact kk)
theorem j_su4v (pc' : Nat) {a0 a1 a2 a3 : Value} (hdg : decode y.2.1 pc = .ok (.invokespecial i, 3)) (hp : pc + 3 = pc') (hd : Nat.blt d' d = true) (hc : CSu y.1.cls i y' 4) (ho : okC a ci = true) (hq1 : (cls[ci]?).isSome = true) (hw : Nat.ble (rest.map fun v => v.category).sum 8 = true) (hM : JM l g d' y' [rf g a, a0, a1, a2, a3] m (RF none m1)) (kk : J l g d y pc' ls rest m1 Q) : J l g d y pc ls (a3 :: a2 :: a1 :: a0 :: rf g a :: rest) m Q :=
  j_su4 pc' hdg hp hd hc ho hq1 hw hM (fun r m' h => by obtain ⟨rfl, rfl⟩ := h; exact kk)
theorem j_st5 (pc' : Nat) {a0 a1 a2 a3 a4 : Value} (hdg : decode y.2.1 pc = .ok (.invokestatic i, 3)) (hp : pc + 3 = pc') (hd : Nat.blt d' d = true) (hc : CSt y.1.cls i y' 5) (hw : Nat.ble (rest.map fun v => v.category).sum 8 = true) (hM : JM l g d' y' [a0, a1, a2, a3, a4] m Q') (kk : ∀ r m', Q' r m' → J l g d y pc' ls (r.toList ++ rest) m' Q) : J l g d y pc ls (a4 :: a3 :: a2 :: a1 :: a0 :: rest) m Q := by
  subst hp
  exact jg_static (As := [a0, a1, a2, a3, a4]) (rest := rest) hdg (Nat.le_of_ble_eq_true hd) hc rfl hw hM kk
theorem j_st5f (pc' : Nat) {a0 a1 a2 a3 a4 : Value} (hdg : decode y.2.1 pc = .ok (.invokestatic i, 3)) (hp : pc + 3 = pc') (hd : Nat.blt d' d = true) (hc : CSt y.1.cls i y' 5) (hw : Nat.ble (rest.map fun v => v.category).sum 8 = true) (hM : JM l g d' y' [a0, a1, a2, a3, a4] m (RF (some v) m1)) (kk : J l g d y pc' ls (v :: rest) m1 Q) : J l g d y pc ls (a4 :: a3 :: a2 :: a1 :: a0 :: rest) m Q :=
  j_st5 pc' hdg hp hd hc hw hM (fun r m' h => by obtain ⟨rfl, rfl⟩ := h; exact kk)
theorem j_st5v (pc' : Nat) {a0 a1 a2 a3 a4 : Value} (hdg : decode y.2.1 pc = .ok (.invokestatic i, 3)) (hp : pc + 3 = pc') (hd : Nat.blt d' d = true) (hc : CSt y.1.cls i y' 5) (hw : Nat.ble (rest.map fun v => v.category).sum 8 = true) (hM : JM l g d' y' [a0, a1, a2, a3, a4] m (RF none m1)) (kk : J l g d y pc' ls rest m1 Q) : J l g d y pc ls (a4 :: a3 :: a2 :: a1 :: a0 :: rest) m Q :=
  j_st5 pc' hdg hp hd hc hw hM (fun r m' h => by obtain ⟨rfl, rfl⟩ := h; exact kk)
theorem j_vi5 (pc' : Nat) {a0 a1 a2 a3 a4 : Value} (hdg : decode y.2.1 pc = .ok (.invokevirtual i, 3)) (hp : pc + 3 = pc') (hd : Nat.blt d' d = true) (hc : CVc y.1.cls i ci y' 5) (ho : okC a ci = true) (hw : Nat.ble (rest.map fun v => v.category).sum 8 = true) (hM : JM l g d' y' [rf g a, a0, a1, a2, a3, a4] m Q') (kk : ∀ r m', Q' r m' → J l g d y pc' ls (r.toList ++ rest) m' Q) : J l g d y pc ls (a4 :: a3 :: a2 :: a1 :: a0 :: rf g a :: rest) m Q := by
  subst hp
  obtain ⟨q, hq1, hq2⟩ := id hc.2
  exact jg_virtual (As := [a0, a1, a2, a3, a4]) (rest := rest) hdg (Nat.le_of_ble_eq_true hd) hc.1 ho hq1 hq2 rfl hw hM kk
theorem j_vi5f (pc' : Nat) {a0 a1 a2 a3 a4 : Value} (hdg : decode y.2.1 pc = .ok (.invokevirtual i, 3)) (hp : pc + 3 = pc') (hd : Nat.blt d' d = true) (hc : CVc y.1.cls i ci y' 5) (ho : okC a ci = true) (hw : Nat.ble (rest.map fun v => v.category).sum 8 = true) (hM : JM l g d' y' [rf g a, a0, a1, a2, a3, a4] m (RF (some v) m1)) (kk : J l g d y pc' ls (v :: rest) m1 Q) : J l g d y pc ls (a4 :: a3 :: a2 :: a1 :: a0 :: rf g a :: rest) m Q :=
  j_vi5 pc' hdg hp hd hc ho hw hM (fun r m' h => by obtain ⟨rfl, rfl⟩ := h; exact kk)
theorem j_vi5v (pc' : Nat) {a0 a1 a2 a3 a4 : Value} (hdg : decode y.2.1 pc = .ok (.invokevirtual i, 3)) (hp : pc + 3 = pc') (hd : Nat.blt d' d = true) (hc : CVc y.1.cls i ci y' 5) (ho : okC a ci = true) (hw : Nat.ble (rest.map fun v => v.category).sum 8 = true) (hM : JM l g d' y' [rf g a, a0, a1, a2, a3, a4] m (RF none m1)) (kk : J l g d y pc' ls rest m1 Q) : J l g d y pc ls (a4 :: a3 :: a2 :: a1 :: a0 :: rf g a :: rest) m Q :=
  j_vi5 pc' hdg hp hd hc ho hw hM (fun r m' h => by obtain ⟨rfl, rfl⟩ := h; exact kk)
theorem j_dy5 (pc' : Nat) {a0 a1 a2 a3 a4 : Value} (hdg : decode y.2.1 pc = .ok (.invokevirtual i, 3)) (hp : pc + 3 = pc') (hd : Nat.blt d' d = true) (hc : CUc y.1.cls i ci y' 5) (ho : okC a ci = true) (hw : Nat.ble (rest.map fun v => v.category).sum 8 = true) (hM : JM l g d' y' [rf g a, a0, a1, a2, a3, a4] m Q') (kk : ∀ r m', Q' r m' → J l g d y pc' ls (r.toList ++ rest) m' Q) : J l g d y pc ls (a4 :: a3 :: a2 :: a1 :: a0 :: rf g a :: rest) m Q := by
  subst hp
  obtain ⟨q, x, owner, hq1, hc⟩ := hc
  exact jg_dyn (As := [a0, a1, a2, a3, a4]) (rest := rest) hdg (Nat.le_of_ble_eq_true hd) hq1 hc ho rfl hw hM kk
theorem j_dy5f (pc' : Nat) {a0 a1 a2 a3 a4 : Value} (hdg : decode y.2.1 pc = .ok (.invokevirtual i, 3)) (hp : pc + 3 = pc') (hd : Nat.blt d' d = true) (hc : CUc y.1.cls i ci y' 5) (ho : okC a ci = true) (hw : Nat.ble (rest.map fun v => v.category).sum 8 = true) (hM : JM l g d' y' [rf g a, a0, a1, a2, a3, a4] m (RF (some v) m1)) (kk : J l g d y pc' ls (v :: rest) m1 Q) : J l g d y pc ls (a4 :: a3 :: a2 :: a1 :: a0 :: rf g a :: rest) m Q :=
  j_dy5 pc' hdg hp hd hc ho hw hM (fun r m' h => by obtain ⟨rfl, rfl⟩ := h; exact kk)
theorem j_dy5v (pc' : Nat) {a0 a1 a2 a3 a4 : Value} (hdg : decode y.2.1 pc = .ok (.invokevirtual i, 3)) (hp : pc + 3 = pc') (hd : Nat.blt d' d = true) (hc : CUc y.1.cls i ci y' 5) (ho : okC a ci = true) (hw : Nat.ble (rest.map fun v => v.category).sum 8 = true) (hM : JM l g d' y' [rf g a, a0, a1, a2, a3, a4] m (RF none m1)) (kk : J l g d y pc' ls rest m1 Q) : J l g d y pc ls (a4 :: a3 :: a2 :: a1 :: a0 :: rf g a :: rest) m Q :=
  j_dy5 pc' hdg hp hd hc ho hw hM (fun r m' h => by obtain ⟨rfl, rfl⟩ := h; exact kk)
theorem j_su5 (pc' : Nat) {a0 a1 a2 a3 a4 : Value} (hdg : decode y.2.1 pc = .ok (.invokespecial i, 3)) (hp : pc + 3 = pc') (hd : Nat.blt d' d = true) (hc : CSu y.1.cls i y' 5) (ho : okC a ci = true) (hq1 : (cls[ci]?).isSome = true) (hw : Nat.ble (rest.map fun v => v.category).sum 8 = true) (hM : JM l g d' y' [rf g a, a0, a1, a2, a3, a4] m Q') (kk : ∀ r m', Q' r m' → J l g d y pc' ls (r.toList ++ rest) m' Q) : J l g d y pc ls (a4 :: a3 :: a2 :: a1 :: a0 :: rf g a :: rest) m Q := by
  subst hp
  obtain ⟨q, hq1⟩ := Option.isSome_iff_exists.mp hq1
  exact jg_super (As := [a0, a1, a2, a3, a4]) (rest := rest) hdg (Nat.le_of_ble_eq_true hd) hq1 hc ho rfl hw hM kk
theorem j_su5f (pc' : Nat) {a0 a1 a2 a3 a4 : Value} (hdg : decode y.2.1 pc = .ok (.invokespecial i, 3)) (hp : pc + 3 = pc') (hd : Nat.blt d' d = true) (hc : CSu y.1.cls i y' 5) (ho : okC a ci = true) (hq1 : (cls[ci]?).isSome = true) (hw : Nat.ble (rest.map fun v => v.category).sum 8 = true) (hM : JM l g d' y' [rf g a, a0, a1, a2, a3, a4] m (RF (some v) m1)) (kk : J l g d y pc' ls (v :: rest) m1 Q) : J l g d y pc ls (a4 :: a3 :: a2 :: a1 :: a0 :: rf g a :: rest) m Q :=
  j_su5 pc' hdg hp hd hc ho hq1 hw hM (fun r m' h => by obtain ⟨rfl, rfl⟩ := h; exact kk)
theorem j_su5v (pc' : Nat) {a0 a1 a2 a3 a4 : Value} (hdg : decode y.2.1 pc = .ok (.invokespecial i, 3)) (hp : pc + 3 = pc') (hd : Nat.blt d' d = true) (hc : CSu y.1.cls i y' 5) (ho : okC a ci = true) (hq1 : (cls[ci]?).isSome = true) (hw : Nat.ble (rest.map fun v => v.category).sum 8 = true) (hM : JM l g d' y' [rf g a, a0, a1, a2, a3, a4] m (RF none m1)) (kk : J l g d y pc' ls rest m1 Q) : J l g d y pc ls (a4 :: a3 :: a2 :: a1 :: a0 :: rf g a :: rest) m Q :=
  j_su5 pc' hdg hp hd hc ho hq1 hw hM (fun r m' h => by obtain ⟨rfl, rfl⟩ := h; exact kk)
theorem j_st6 (pc' : Nat) {a0 a1 a2 a3 a4 a5 : Value} (hdg : decode y.2.1 pc = .ok (.invokestatic i, 3)) (hp : pc + 3 = pc') (hd : Nat.blt d' d = true) (hc : CSt y.1.cls i y' 6) (hw : Nat.ble (rest.map fun v => v.category).sum 8 = true) (hM : JM l g d' y' [a0, a1, a2, a3, a4, a5] m Q') (kk : ∀ r m', Q' r m' → J l g d y pc' ls (r.toList ++ rest) m' Q) : J l g d y pc ls (a5 :: a4 :: a3 :: a2 :: a1 :: a0 :: rest) m Q := by
  subst hp
  exact jg_static (As := [a0, a1, a2, a3, a4, a5]) (rest := rest) hdg (Nat.le_of_ble_eq_true hd) hc rfl hw hM kk
theorem j_st6f (pc' : Nat) {a0 a1 a2 a3 a4 a5 : Value} (hdg : decode y.2.1 pc = .ok (.invokestatic i, 3)) (hp : pc + 3 = pc') (hd : Nat.blt d' d = true) (hc : CSt y.1.cls i y' 6) (hw : Nat.ble (rest.map fun v => v.category).sum 8 = true) (hM : JM l g d' y' [a0, a1, a2, a3, a4, a5] m (RF (some v) m1)) (kk : J l g d y pc' ls (v :: rest) m1 Q) : J l g d y pc ls (a5 :: a4 :: a3 :: a2 :: a1 :: a0 :: rest) m Q :=
  j_st6 pc' hdg hp hd hc hw hM (fun r m' h => by obtain ⟨rfl, rfl⟩ := h; exact kk)
theorem j_st6v (pc' : Nat) {a0 a1 a2 a3 a4 a5 : Value} (hdg : decode y.2.1 pc = .ok (.invokestatic i, 3)) (hp : pc + 3 = pc') (hd : Nat.blt d' d = true) (hc : CSt y.1.cls i y' 6) (hw : Nat.ble (rest.map fun v => v.category).sum 8 = true) (hM : JM l g d' y' [a0, a1, a2, a3, a4, a5] m (RF none m1)) (kk : J l g d y pc' ls rest m1 Q) : J l g d y pc ls (a5 :: a4 :: a3 :: a2 :: a1 :: a0 :: rest) m Q :=
  j_st6 pc' hdg hp hd hc hw hM (fun r m' h => by obtain ⟨rfl, rfl⟩ := h; exact kk)
theorem j_vi6 (pc' : Nat) {a0 a1 a2 a3 a4 a5 : Value} (hdg : decode y.2.1 pc = .ok (.invokevirtual i, 3)) (hp : pc + 3 = pc') (hd : Nat.blt d' d = true) (hc : CVc y.1.cls i ci y' 6) (ho : okC a ci = true) (hw : Nat.ble (rest.map fun v => v.category).sum 8 = true) (hM : JM l g d' y' [rf g a, a0, a1, a2, a3, a4, a5] m Q') (kk : ∀ r m', Q' r m' → J l g d y pc' ls (r.toList ++ rest) m' Q) : J l g d y pc ls (a5 :: a4 :: a3 :: a2 :: a1 :: a0 :: rf g a :: rest) m Q := by
  subst hp
  obtain ⟨q, hq1, hq2⟩ := id hc.2
  exact jg_virtual (As := [a0, a1, a2, a3, a4, a5]) (rest := rest) hdg (Nat.le_of_ble_eq_true hd) hc.1 ho hq1 hq2 rfl hw hM kk
theorem j_vi6f (pc' : Nat) {a0 a1 a2 a3 a4 a5 : Value} (hdg : decode y.2.1 pc = .ok (.invokevirtual i, 3)) (hp : pc + 3 = pc') (hd : Nat.blt d' d = true) (hc : CVc y.1.cls i ci y' 6) (ho : okC a ci = true) (hw : Nat.ble (rest.map fun v => v.category).sum 8 = true) (hM : JM l g d' y' [rf g a, a0, a1, a2, a3, a4, a5] m (RF (some v) m1)) (kk : J l g d y pc' ls (v :: rest) m1 Q) : J l g d y pc ls (a5 :: a4 :: a3 :: a2 :: a1 :: a0 :: rf g a :: rest) m Q :=
  j_vi6 pc' hdg hp hd hc ho hw hM (fun r m' h => by obtain ⟨rfl, rfl⟩ := h; exact kk)
theorem j_vi6v (pc' : Nat) {a0 a1 a2 a3 a4 a5 : Value} (hdg : decode y.2.1 pc = .ok (.invokevirtual i, 3)) (hp : pc + 3 = pc') (hd : Nat.blt d' d = true) (hc : CVc y.1.cls i ci y' 6) (ho : okC a ci = true) (hw : Nat.ble (rest.map fun v => v.category).sum 8 = true) (hM : JM l g d' y' [rf g a, a0, a1, a2, a3, a4, a5] m (RF none m1)) (kk : J l g d y pc' ls rest m1 Q) : J l g d y pc ls (a5 :: a4 :: a3 :: a2 :: a1 :: a0 :: rf g a :: rest) m Q :=
  j_vi6 pc' hdg hp hd hc ho hw hM (fun r m' h => by obtain ⟨rfl, rfl⟩ := h; exact kk)
theorem j_dy6 (pc' : Nat) {a0 a1 a2 a3 a4 a5 : Value} (hdg : decode y.2.1 pc = .ok (.invokevirtual i, 3)) (hp : pc + 3 = pc') (hd : Nat.blt d' d = true) (hc : CUc y.1.cls i ci y' 6) (ho : okC a ci = true) (hw : Nat.ble (rest.map fun v => v.category).sum 8 = true) (hM : JM l g d' y' [rf g a, a0, a1, a2, a3, a4, a5] m Q') (kk : ∀ r m', Q' r m' → J l g d y pc' ls (r.toList ++ rest) m' Q) : J l g d y pc ls (a5 :: a4 :: a3 :: a2 :: a1 :: a0 :: rf g a :: rest) m Q := by
  subst hp
  obtain ⟨q, x, owner, hq1, hc⟩ := hc
  exact jg_dyn (As := [a0, a1, a2, a3, a4, a5]) (rest := rest) hdg (Nat.le_of_ble_eq_true hd) hq1 hc ho rfl hw hM kk
theorem j_dy6f (pc' : Nat) {a0 a1 a2 a3 a4 a5 : Value} (hdg : decode y.2.1 pc = .ok (.invokevirtual i, 3)) (hp : pc + 3 = pc') (hd : Nat.blt d' d = true) (hc : CUc y.1.cls i ci y' 6) (ho : okC a ci = true) (hw : Nat.ble (rest.map fun v => v.category).sum 8 = true) (hM : JM l g d' y' [rf g a, a0, a1, a2, a3, a4, a5] m (RF (some v) m1)) (kk : J l g d y pc' ls (v :: rest) m1 Q) : J l g d y pc ls (a5 :: a4 :: a3 :: a2 :: a1 :: a0 :: rf g a :: rest) m Q :=
  j_dy6 pc' hdg hp hd hc ho hw hM (fun r m' h => by obtain ⟨rfl, rfl⟩ := h; exact kk)
theorem j_dy6v (pc' : Nat) {a0 a1 a2 a3 a4 a5 : Value} (hdg : decode y.2.1 pc = .ok (.invokevirtual i, 3)) (hp : pc + 3 = pc') (hd : Nat.blt d' d = true) (hc : CUc y.1.cls i ci y' 6) (ho : okC a ci = true) (hw : Nat.ble (rest.map fun v => v.category).sum 8 = true) (hM : JM l g d' y' [rf g a, a0, a1, a2, a3, a4, a5] m (RF none m1)) (kk : J l g d y pc' ls rest m1 Q) : J l g d y pc ls (a5 :: a4 :: a3 :: a2 :: a1 :: a0 :: rf g a :: rest) m Q :=
  j_dy6 pc' hdg hp hd hc ho hw hM (fun r m' h => by obtain ⟨rfl, rfl⟩ := h; exact kk)
theorem j_su6 (pc' : Nat) {a0 a1 a2 a3 a4 a5 : Value} (hdg : decode y.2.1 pc = .ok (.invokespecial i, 3)) (hp : pc + 3 = pc') (hd : Nat.blt d' d = true) (hc : CSu y.1.cls i y' 6) (ho : okC a ci = true) (hq1 : (cls[ci]?).isSome = true) (hw : Nat.ble (rest.map fun v => v.category).sum 8 = true) (hM : JM l g d' y' [rf g a, a0, a1, a2, a3, a4, a5] m Q') (kk : ∀ r m', Q' r m' → J l g d y pc' ls (r.toList ++ rest) m' Q) : J l g d y pc ls (a5 :: a4 :: a3 :: a2 :: a1 :: a0 :: rf g a :: rest) m Q := by
  subst hp
  obtain ⟨q, hq1⟩ := Option.isSome_iff_exists.mp hq1
  exact jg_super (As := [a0, a1, a2, a3, a4, a5]) (rest := rest) hdg (Nat.le_of_ble_eq_true hd) hq1 hc ho rfl hw hM kk
theorem j_su6f (pc' : Nat) {a0 a1 a2 a3 a4 a5 : Value} (hdg : decode y.2.1 pc = .ok (.invokespecial i, 3)) (hp : pc + 3 = pc') (hd : Nat.blt d' d = true) (hc : CSu y.1.cls i y' 6) (ho : okC a ci = true) (hq1 : (cls[ci]?).isSome = true) (hw : Nat.ble (rest.map fun v => v.category).sum 8 = true) (hM : JM l g d' y' [rf g a, a0, a1, a2, a3, a4, a5] m (RF (some v) m1)) (kk : J l g d y pc' ls (v :: rest) m1 Q) : J l g d y pc ls (a5 :: a4 :: a3 :: a2 :: a1 :: a0 :: rf g a :: rest) m Q :=
  j_su6 pc' hdg hp hd hc ho hq1 hw hM (fun r m' h => by obtain ⟨rfl, rfl⟩ := h; exact kk)
theorem j_su6v (pc' : Nat) {a0 a1 a2 a3 a4 a5 : Value} (hdg : decode y.2.1 pc = .ok (.invokespecial i, 3)) (hp : pc + 3 = pc') (hd : Nat.blt d' d = true) (hc : CSu y.1.cls i y' 6) (ho : okC a ci = true) (hq1 : (cls[ci]?).isSome = true) (hw : Nat.ble (rest.map fun v => v.category).sum 8 = true) (hM : JM l g d' y' [rf g a, a0, a1, a2, a3, a4, a5] m (RF none m1)) (kk : J l g d y pc' ls rest m1 Q) : J l g d y pc ls (a5 :: a4 :: a3 :: a2 :: a1 :: a0 :: rf g a :: rest) m Q :=
  j_su6 pc' hdg hp hd hc ho hq1 hw hM (fun r m' h => by obtain ⟨rfl, rfl⟩ := h; exact kk)
end JK
