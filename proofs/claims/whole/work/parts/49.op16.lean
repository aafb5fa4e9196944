/-- the first greatest of V s, V (s+1), .. over b -/
def scV (V : Nat → Int32) (s : Nat) (b : Int32) : Nat → Int32
  | 0 => b
  | k + 1 => if V (s + k) ≤ scV V s b k then scV V s b k else V (s + k)
def scI (V : Nat → Int32) (s : Nat) (b a : Int32) : Nat → Int32
  | 0 => a
  | k + 1 => if V (s + k) ≤ scV V s b k then scI V s b a k else nI (s + k)
theorem sc_f {V : Nat → Int32} {s k : Nat} {b a : Int32} (q : V (s + k) ≤ scV V s b k) : scV V s b (k + 1) = scV V s b k ∧ scI V s b a (k + 1) = scI V s b a k := ⟨if_pos q, if_pos q⟩
theorem sc_t {V : Nat → Int32} {s k : Nat} {b a : Int32} (q : ¬ V (s + k) ≤ scV V s b k) : scV V s b (k + 1) = V (s + k) ∧ scI V s b a (k + 1) = nI (s + k) := ⟨if_neg q, if_neg q⟩
theorem sc_i {V : Nat → Int32} {s : Nat} {b a a' : Int32} (h : ¬ V (s + 0) ≤ b) : ∀ k, scI V s b a (k + 1) = scI V s b a' (k + 1)
  | 0 => by rw [(sc_t (k := 0) (a := a) h).2, (sc_t (k := 0) (a := a') h).2]
  | k + 1 => by
    have ih := sc_i (a := a) (a' := a') h k
    by_cases q : V (s + (k + 1)) ≤ scV V s b (k + 1)
    · rw [(sc_f (a := a) q).2, (sc_f (a := a') q).2, ih]
    · rw [(sc_t (a := a) q).2, (sc_t (a := a') q).2]
theorem rst_back {d e a : Nat → Int32} (h : ∀ k, 88 ≤ k → e k = d k) : rst (rst d a) e = d := by
  funext j
  unfold rst
  by_cases q : j < 88
  · rw [if_pos q, if_pos q]
  · rw [if_neg q]; exact h j (by omega)
theorem thT {m0 m : Mem} {d : Nat → Int32} (hs : Sm thS m0 m) (hT : TR 9 m0 d) : TR 9 m d := TR_same hT (fun b b1 b2 => hs b (by rcases (show b = 9 ∨ b = 10 ∨ b = 11 ∨ b = 12 ∨ b = 13 ∨ b = 14 ∨ b = 15 ∨ b = 16 ∨ b = 17 by omega) with rfl | rfl | rfl | rfl | rfl | rfl | rfl | rfl | rfl <;> decide))
theorem TR_sweep {t : Nat} {m : Mem} {d : Nat → Int32} {v : Int32} (h : TR t m d) : TR t (up2 m t 11 v) (upd1 d 3 v) := by
  obtain ⟨t9, t10, t11, t12, t13, ts, tt, th⟩ := h
  have o : ∀ j, j ≠ 3 → upd1 d 3 v j = d j := fun j hj => if_neg hj
  have r : ∀ b, b ≠ t → up2 m t 11 v b = m b := fun b hb => up2_r hb
  exact ⟨by rw [up2_k (by decide), o 0 (by decide)]; exact t9, by rw [up2_k (by decide), o 2 (by decide)]; exact t10, by rw [up2_s]; exact (if_pos rfl).symm, by rw [up2_k (by decide), o 4 (by decide)]; exact t12, by rw [up2_k (by decide), o 1 (by decide)]; exact t13, fun i hi => by rw [r _ (by omega), o _ (by omega)]; exact ts i hi, fun i hi => by rw [r _ (by omega), o _ (by omega)]; exact tt i hi, fun i hi k hk => by rw [r _ (by omega), th i hi k hk]; exact (o _ (by omega)).symm⟩
theorem WF_sweep {d : Nat → Int32} (w : WF d) {i : Nat} (h1 : 1 ≤ i) (h2 : i ≤ 30) : WF (upd1 d 3 (nI i)) := WF_low w (Or.inr (Or.inr (Or.inr (Or.inr ⟨rfl, ⟨i, by omega, rfl⟩, fun q => by have z := nI_lt (a := 0) (b := i) (by omega) (by omega); rw [q] at z; exact Int32.lt_irrefl z⟩))))
