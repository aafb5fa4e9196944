/-! the progress of a constructor as a list: (a, 0, k) the slot k of the cell a; (a, n, _) the cells a .. a + n - 1 -/
def tst (u : Nat × Nat × Nat) (b j : Nat) : Bool := match u.2.1 with
  | 0 => Nat.beq b u.1 && Nat.beq j u.2.2
  | n + 1 => Nat.ble u.1 b && Nat.blt b (u.1 + (n + 1))
def PL (P : Pr) : List (Nat × Nat × Nat) → Pr
  | [] => P
  | u :: ups => fun b j => PL P ups b j || tst u b j
def ckF (ups : List (Nat × Nat × Nat)) (t n : Nat) : Bool :=
  ups.all (fun u => Nat.ble t u.1 && (Nat.ble (u.1 + u.2.1) (t + n) && Nat.blt u.1 (t + n))) && (List.range' t n).all (fun b => (List.range (ln b)).all (fun j => ups.any (fun u => tst u b j) || sameD b j))
theorem PL_or (P : Pr) : ∀ (ups : List (Nat × Nat × Nat)) (b j : Nat), PL P ups b j = (P b j || ups.any (fun u => tst u b j))
  | [], b, j => by simp [PL]
  | u :: ups, b, j => by
    show (PL P ups b j || tst u b j) = _
    rw [PL_or P ups b j, List.any_cons, Bool.or_assoc, Bool.or_comm (tst u b j)]
theorem tst_in {u : Nat × Nat × Nat} {b j t n : Nat} (h : tst u b j = true) (h1 : t ≤ u.1) (h2 : u.1 + u.2.1 ≤ t + n) (h3 : u.1 < t + n) : t ≤ b ∧ b < t + n := by
  obtain ⟨a, m, k⟩ := u
  cases m with
  | zero =>
    have h : (Nat.beq b a && Nat.beq j k) = true := h
    simp only [Bool.and_eq_true] at h
    have := Nat.eq_of_beq_eq_true h.1
    subst this
    exact ⟨h1, h3⟩
  | succ m =>
    have h : (Nat.ble a b && Nat.blt b (a + (m + 1))) = true := h
    simp only [Bool.and_eq_true] at h
    have e1 := Nat.le_of_ble_eq_true h.1
    have e2 := Nat.le_of_ble_eq_true h.2
    have h2 : a + (m + 1) ≤ t + n := h2
    have h1 : t ≤ a := h1
    exact ⟨by omega, by omega⟩
section XF
variable {l : Launch} {g : Gv} {y : MD} {pc : Nat} {ls : List (Option Value)} {st : List Value} {R0 : Room} {c0 s0 N : Nat} {X : State → Array Value → List Frame → Method → (State → Prop) → Prop}
theorem x_eq2 {P : Pr} (P' : Pr) (h : ∀ a, a < N → ∀ k, k < ln a → P a k = P' a k ∨ sameD a k = true) (hi : ∀ b j, N ≤ b → P b j = false → P' b j = false) (kk : JX l g y (KX g R0 c0 s0 N P' X) pc ls st) : JX l g y (KX g R0 c0 s0 N P X) pc ls st := by
  refine kk.mono (fun p e R s mi args below meth c H locs cells slots Q K0 => ?_)
  obtain ⟨h1, h2, ⟨r1, r2, r3, ⟨r4, r5⟩, r6⟩, h3⟩ := K0
  exact ⟨h1, h2, ⟨by rw [← Wc_eq h]; exact r1, r2, r3, ⟨r4, fun b j hb => hi b j hb (r5 b j hb)⟩, r6⟩, h3⟩
theorem x_fin (P : Pr) (ups : List (Nat × Nat × Nat)) (t n : Nat) (hck : ckF ups t n = true) (hN : t + n ≤ N) (kk : JX l g y (KX g R0 c0 s0 N (setR P t n) X) pc ls st) : JX l g y (KX g R0 c0 s0 N (PL P ups) X) pc ls st := by
  simp only [ckF, Bool.and_eq_true, List.all_eq_true] at hck
  obtain ⟨q1, q2⟩ := hck
  have inr : ∀ b, Nat.ble t b = true → Nat.blt b (t + n) = true → t ≤ b ∧ b < t + n := fun b h1 h2 => ⟨Nat.le_of_ble_eq_true h1, Nat.le_of_ble_eq_true h2⟩
  refine x_eq2 (setR P t n) (fun a ha k hk => ?_) (fun b j hb h => ?_) kk
  · rw [PL_or]
    unfold setR
    by_cases hr : t ≤ a ∧ a < t + n
    · have h3 := q2 a (List.mem_range'_1.mpr hr) k (List.mem_range.mpr hk)
      simp only [Bool.or_eq_true] at h3
      rcases h3 with h3 | h3
      · left
        rw [h3, Nat.ble_eq_true_of_le hr.1, show Nat.blt a (t + n) = true from Nat.ble_eq_true_of_le hr.2]
        rfl
      · exact Or.inr h3
    · left
      have e1 : (ups.any fun u => tst u a k) = false := by
        cases hh : ups.any fun u => tst u a k with
        | false => rfl
        | true =>
          obtain ⟨u, hu, ht⟩ := List.any_eq_true.mp hh
          have := q1 u hu
          exact absurd (tst_in ht (Nat.le_of_ble_eq_true this.1) (Nat.le_of_ble_eq_true this.2.1) (Nat.le_of_ble_eq_true this.2.2)) hr
      have e2 : (Nat.ble t a && Nat.blt a (t + n)) = false := by
        cases hh : (Nat.ble t a && Nat.blt a (t + n)) with
        | false => rfl
        | true =>
          simp only [Bool.and_eq_true] at hh
          exact absurd (inr a hh.1 hh.2) hr
      rw [e1, e2]
  · rw [PL_or] at h
    simp only [Bool.or_eq_false_iff] at h
    unfold setR
    rw [h.1]
    cases hh : (Nat.ble t b && Nat.blt b (t + n)) with
    | false => rfl
    | true =>
      simp only [Bool.and_eq_true] at hh
      have := (inr b hh.1 hh.2).2
      omega
end XF
