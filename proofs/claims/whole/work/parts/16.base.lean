/-! small words on Int32, bits of truth, the table m -/
def bz (P : Prop) [Decidable P] : Int32 := if P then 1 else 0
theorem bz_t {P : Prop} [Decidable P] (h : P) : bz P = 1 := if_pos h
theorem bz_f {P : Prop} [Decidable P] (h : ¬ P) : bz P = 0 := if_neg h
theorem bz_01 {P : Prop} [Decidable P] : bz P = 0 ∨ bz P = 1 := by by_cases h : P; exact Or.inr (bz_t h); exact Or.inl (bz_f h)
theorem bz_eq0 {P : Prop} [Decidable P] : bz P = 0 ↔ ¬ P := ⟨fun h q => by rw [bz_t q] at h; exact absurd h (by decide), bz_f⟩
theorem bz_ne0 {P : Prop} [Decidable P] : bz P ≠ 0 ↔ P := ⟨fun h => Classical.byContradiction fun q => h (bz_f q), fun h q => bz_eq0.mp q h⟩
theorem bz_congr {P R : Prop} [Decidable P] [Decidable R] (h : P ↔ R) : bz P = bz R := by
  by_cases q : P
  · rw [bz_t q, bz_t (h.mp q)]
  · rw [bz_f q, bz_f (fun z => q (h.mpr z))]
theorem rf_t {P : Prop} [Decidable P] {m : Mem} (h : P) : RF (some (.int (bz P))) m (some (.int 1)) m := ⟨by rw [bz_t h], rfl⟩
theorem rf_f {P : Prop} [Decidable P] {m : Mem} (h : ¬ P) : RF (some (.int (bz P))) m (some (.int 0)) m := ⟨by rw [bz_f h], rfl⟩
theorem rf_e {m : Mem} {x v : Int32} (h : x = v) : RF (some (.int v)) m (some (.int x)) m := ⟨by rw [h], rfl⟩
section JB
variable {l : Launch} {g : Gv} {d : Nat} {y : MD} {pc : Nat} {ls : List (Option Value)} {st : List Value} {m : Mem} {Q : Option Value → Mem → Prop}
theorem j_if_eq_bz (tgt : Nat) (pc' : Nat) {P : Prop} [Decidable P] {off : Int} (hdg : decode y.2.1 pc = .ok (.ifCond .eq off, 3)) (ht : (pc : Int) + off = (tgt : Int)) (hp : pc + 3 = pc') (kt : ¬ P → J l g d y tgt ls st m Q) (kf : P → J l g d y pc' ls st m Q) : J l g d y pc ls (.int (bz P) :: st) m Q :=
  j_if_eq tgt pc' hdg ht hp (fun h => kt (bz_eq0.mp h)) (fun h => kf (bz_ne0.mp h))
theorem j_if_ne_bz (tgt : Nat) (pc' : Nat) {P : Prop} [Decidable P] {off : Int} (hdg : decode y.2.1 pc = .ok (.ifCond .ne off, 3)) (ht : (pc : Int) + off = (tgt : Int)) (hp : pc + 3 = pc') (kt : P → J l g d y tgt ls st m Q) (kf : ¬ P → J l g d y pc' ls st m Q) : J l g d y pc ls (.int (bz P) :: st) m Q :=
  j_if_ne tgt pc' hdg ht hp (fun h => kt (bz_ne0.mp h)) (fun h => kf (bz_eq0.mp h))
theorem j_iaddN (pc' : Nat) {a b : Nat} (hdg : decode y.2.1 pc = .ok (.iadd, 1)) (hp : pc + 1 = pc') (kk : J l g d y pc' ls (.int (nI (a + b)) :: st) m Q) : J l g d y pc ls (.int (nI b) :: .int (nI a) :: st) m Q :=
  j_iadd pc' hdg hp (by rw [nI_add]; exact kk)
theorem j_imulN (pc' : Nat) {a b : Nat} (hdg : decode y.2.1 pc = .ok (.imul, 1)) (hp : pc + 1 = pc') (kk : J l g d y pc' ls (.int (nI (a * b)) :: st) m Q) : J l g d y pc ls (.int (nI b) :: .int (nI a) :: st) m Q :=
  j_imul pc' hdg hp (by rw [pk_mul]; exact kk)
/-- the top of the stack by another name -/
theorem j_top {x z : Int32} (h : x = z) (kk : J l g d y pc ls (.int z :: st) m Q) : J l g d y pc ls (.int x :: st) m Q := by rw [h]; exact kk
theorem j_mem {m' : Mem} (h : m = m') (kk : J l g d y pc ls st m' Q) : J l g d y pc ls st m Q := by rw [h]; exact kk
end JB
theorem up2_s {m : Mem} {a k : Nat} {v : Int32} : up2 m a k v a k = v := if_pos ⟨rfl, rfl⟩
theorem up2_n {m : Mem} {a k b j : Nat} {v : Int32} (h : ¬ (b = a ∧ j = k)) : up2 m a k v b j = m b j := if_neg h
theorem up2_a {m : Mem} {a k b j : Nat} {v : Int32} (h : b ≠ a) : up2 m a k v b j = m b j := if_neg fun q => h q.1
theorem up2_k {m : Mem} {a k b j : Nat} {v : Int32} (h : j ≠ k) : up2 m a k v b j = m b j := if_neg fun q => h q.2
theorem up2_r {m : Mem} {a k b : Nat} {v : Int32} (h : b ≠ a) : up2 m a k v b = m b := funext fun _ => up2_a h
theorem up2_u {m : Mem} {a k : Nat} {v w : Int32} : up2 (up2 m a k v) a k w = up2 m a k w := by
  funext b j
  unfold up2
  by_cases h : b = a ∧ j = k
  · rw [if_pos h, if_pos h]
  · rw [if_neg h, if_neg h, if_neg h]
theorem up2_id {m : Mem} {a k : Nat} {v : Int32} (h : m a k = v) : up2 m a k v = m := by
  funext b j
  unfold up2
  by_cases q : b = a ∧ j = k
  · rw [if_pos q, q.1, q.2, h]
  · rw [if_neg q]
theorem pn_X0 : plainName RX0 = true := by decide +kernel
theorem pn_X1 : plainName RX1 = true := by decide +kernel
theorem pn_X2 : plainName RX2 = true := by decide +kernel
theorem pn_X3 : plainName RX3 = true := by decide +kernel
theorem pn_X4 : plainName RX4 = true := by decide +kernel
theorem pn_X5 : plainName RX5 = true := by decide +kernel
theorem pn_X6 : plainName RX6 = true := by decide +kernel
theorem pn_X7 : plainName RX7 = true := by decide +kernel
theorem pn_X8 : plainName RX8 = true := by decide +kernel
theorem pn_X9 : plainName RX9 = true := by decide +kernel
theorem pn_X10 : plainName RX10 = true := by decide +kernel
theorem pn_X11 : plainName RX11 = true := by decide +kernel
theorem pn_X12 : plainName RX12 = true := by decide +kernel
theorem pn_J6 : plainName RJ6 = true := by decide +kernel
theorem pn_J7 : plainName RJ7 = true := by decide +kernel
