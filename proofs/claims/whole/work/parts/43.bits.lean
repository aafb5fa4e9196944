/-! ===== Int32 by its bits: bt x i ===== -/
def bt (x : Int32) (i : Nat) : Bool := x.toBitVec.getLsbD i
theorem b_ext {x y : Int32} (h : ∀ i, i < 32 → bt x i = bt y i) : x = y := Int32.toBitVec_inj.mp (BitVec.eq_of_getLsbD_eq (fun i hi => h i hi))
theorem b_or (x y : Int32) (i : Nat) : bt (x ||| y) i = (bt x i || bt y i) := by unfold bt; rw [Int32.toBitVec_or, BitVec.getLsbD_or]
theorem b_and (x y : Int32) (i : Nat) : bt (x &&& y) i = (bt x i && bt y i) := by unfold bt; rw [Int32.toBitVec_and, BitVec.getLsbD_and]
theorem b_xor (x y : Int32) (i : Nat) : bt (x ^^^ y) i = (bt x i ^^ bt y i) := by unfold bt; rw [Int32.toBitVec_xor, BitVec.getLsbD_xor]
theorem b_big {x : Int32} {i : Nat} (h : 32 ≤ i) : bt x i = false := BitVec.getLsbD_of_ge _ _ h
theorem b_m1 : ∀ i, i < 32 → bt (-1) i = true := by decide +kernel
theorem b_0 (i : Nat) : bt 0 i = false := BitVec.getLsbD_zero
theorem s_l : ∀ n, n < 32 → ((nI n &&& 31).toBitVec.smod 32).toNat = n := by decide +kernel
theorem s_u : ∀ n, n < 32 → (((nI n).toUInt32 &&& Int32.toUInt32 31).toBitVec % 32).toNat = n := by decide +kernel
theorem b_shl (n : Nat) (hn : n < 32) (x : Int32) {i : Nat} (hi : i < 32) : bt (x <<< (nI n &&& 31)) i = (decide (n ≤ i) && bt x (i - n)) := by
  unfold bt
  rw [Int32.toBitVec_shiftLeft]
  show (x.toBitVec <<< ((nI n &&& 31).toBitVec.smod 32).toNat).getLsbD i = _
  rw [s_l n hn, BitVec.getLsbD_shiftLeft]
  rcases Nat.lt_or_ge i n with h | h
  · simp [h, Nat.not_le.mpr h]
  · simp [hi, h, Nat.not_lt.mpr h]
theorem b_ushr (n : Nat) (hn : n < 32) (x : Int32) (i : Nat) : bt ((x.toUInt32 >>> ((nI n).toUInt32 &&& Int32.toUInt32 31)).toInt32) i = bt x (n + i) := by
  show (x.toUInt32 >>> ((nI n).toUInt32 &&& Int32.toUInt32 31)).toBitVec.getLsbD i = x.toUInt32.toBitVec.getLsbD (n + i)
  rw [UInt32.toBitVec_shiftRight]
  show (x.toUInt32.toBitVec >>> (((nI n).toUInt32 &&& Int32.toUInt32 31).toBitVec % 32).toNat).getLsbD i = _
  rw [s_u n hn, BitVec.getLsbD_ushiftRight]
theorem b_sshr (n : Nat) (hn : n < 32) (x : Int32) {i : Nat} (hi : i < 32) : bt (x >>> (nI n &&& 31)) i = if n + i < 32 then bt x (n + i) else bt x 31 := by
  unfold bt
  rw [Int32.toBitVec_shiftRight]
  show (x.toBitVec.sshiftRight ((nI n &&& 31).toBitVec.smod 32).toNat).getLsbD i = _
  rw [s_l n hn, BitVec.getLsbD_sshiftRight, BitVec.msb_eq_getLsbD_last]
  simp [hi]
theorem b_1 (i : Nat) : bt 1 i = decide (i = 0) := by
  rcases Nat.lt_or_ge i 32 with h | h
  · exact (by decide +kernel : ∀ i, i < 32 → bt 1 i = decide (i = 0)) i h
  · rw [b_big h, decide_eq_false (by omega)]
theorem bitf_f {x : Int32} {i : Nat} (hi : i < 32) (h : bt x i = false) : bitf x i = 0 := by
  apply b_ext
  intro j hj
  rw [b_and, b_1, b_0]
  by_cases q : j = 0
  · subst q
    rw [b_sshr i hi x hj, if_pos (by omega), Nat.add_zero, h]
    rfl
  · rw [decide_eq_false q, Bool.and_false]
theorem bitf_t {x : Int32} {i : Nat} (hi : i < 32) (h : bt x i = true) : bitf x i = 1 := by
  apply b_ext
  intro j hj
  rw [b_and, b_1]
  by_cases q : j = 0
  · subst q
    rw [b_sshr i hi x hj, if_pos (by omega), Nat.add_zero, h]
    rfl
  · rw [decide_eq_false q, Bool.and_false]
theorem bitf_0 {x : Int32} {i : Nat} (hi : i < 32) : bitf x i = 0 ↔ bt x i = false := by
  cases h : bt x i with
  | false => exact ⟨fun _ => rfl, fun _ => bitf_f hi h⟩
  | true => exact ⟨fun q => by rw [bitf_t hi h] at q; exact absurd q (by decide), fun q => by cases q⟩
theorem setF_bt (P : Nat → Prop) [DecidablePred P] : ∀ (n : Nat), n ≤ 31 → ∀ i, i < 32 → bt (setF P n) i = (decide (i < n) && decide (P i))
  | 0, _, i, _ => by rw [show setF P 0 = 0 from rfl, b_0, decide_eq_false (by omega)]; rfl
  | n + 1, hn, i, hi => by
    have ih := setF_bt P n (by omega) i hi
    unfold setF
    by_cases q : P n
    · rw [if_pos q, b_or, ih, b_shl n (by omega) 1 hi, b_1]
      by_cases e : i = n
      · subst e
        rw [decide_eq_true (Nat.le_refl i), Nat.sub_self, decide_eq_true (Nat.lt_succ_self i), decide_eq_true q]
        simp
      · by_cases z : i < n
        · rw [decide_eq_true z, decide_eq_true (show i < n + 1 by omega), decide_eq_false (show ¬ n ≤ i by omega)]
          simp
        · rw [decide_eq_false z, decide_eq_false (show ¬ i < n + 1 by omega), decide_eq_false (show ¬ i - n = 0 by omega)]
          simp
    · rw [if_neg q, ih]
      by_cases e : i = n
      · subst e
        rw [decide_eq_false q]; simp
      · by_cases z : i < n
        · rw [decide_eq_true z, decide_eq_true (show i < n + 1 by omega)]
        · rw [decide_eq_false z, decide_eq_false (show ¬ i < n + 1 by omega)]
theorem bt_nI {x i : Nat} : bt (nI x) i = (decide (i < 32) && x.testBit i) := by
  show (BitVec.ofNat 32 x).getLsbD i = _
  rw [BitVec.getLsbD_ofNat]
theorem bt_small {x n i : Nat} (hx : x < 2 ^ n) (hi : n ≤ i) : bt (nI x) i = false := by
  rw [bt_nI, Nat.testBit_lt_two_pow (Nat.lt_of_lt_of_le hx (Nat.pow_le_pow_right (by decide) hi)), Bool.and_false]
theorem shl1 : ∀ n : Fin 9, (1 : Int32) <<< (nI n.val &&& 31) = nI (2 ^ n.val) := by decide +kernel
theorem p256 {n : Nat} (h : n ≤ 8) : 2 ^ n ≤ 256 := Nat.pow_le_pow_right (by decide) h
/-- a set of HEIRS -/
theorem set_c {d : Nat → Int32} (w : WF d) {h : Int32} : (0 ≤ h ∧ h < (1 : Int32) <<< (d 0 &&& 31)) ↔ ∃ x, x < 2 ^ hn d ∧ h = nI x := by
  have wn := w.n
  have e := shl1 ⟨hn d, by omega⟩
  have p := p256 wn.1
  rw [wn.2]
  rw [show (1 : Int32) <<< (nI (hn d) &&& 31) = nI (2 ^ hn d) from e]
  constructor
  · rintro ⟨a, b⟩
    obtain ⟨j, j1, rfl⟩ := nI_of (Int32.not_lt.mpr a)
    exact ⟨j, (nI_ltI j1 (by omega)).mp b, rfl⟩
  · rintro ⟨j, j1, rfl⟩
    exact ⟨nI_pos' (by omega), nI_lt j1 (by omega)⟩
theorem set_m {d : Nat → Int32} (w : WF d) {h : Int32} : (0 ≤ h ∧ h ≤ (1 : Int32) <<< (d 0 &&& 31) - 1) ↔ ∃ x, x < 2 ^ hn d ∧ h = nI x := by
  have wn := w.n
  have e := shl1 ⟨hn d, by omega⟩
  have p := p256 wn.1
  have p0 : 0 < 2 ^ hn d := Nat.two_pow_pos _
  rw [wn.2]
  rw [show (1 : Int32) <<< (nI (hn d) &&& 31) = nI (2 ^ hn d) from e, show nI (2 ^ hn d) - 1 = nI (2 ^ hn d - 1) from pk_sub (b := 1) (by omega)]
  constructor
  · rintro ⟨a, b⟩
    obtain ⟨j, j1, rfl⟩ := nI_of (Int32.not_lt.mpr a)
    have := (nI_leI j1 (by omega)).mp b
    exact ⟨j, by omega, rfl⟩
  · rintro ⟨j, j1, rfl⟩
    exact ⟨nI_pos' (by omega), nI_le (by omega) (by omega)⟩
/-- the set x is within the set of P -/
theorem sub_set {P : Nat → Prop} [DecidablePred P] {x n : Nat} (hn : n ≤ 8) (hx : x < 2 ^ n) : (nI x &&& (setF P n ^^^ -1)) = 0 ↔ ∀ h, h < n → bt (nI x) h = true → P h := by
  constructor
  · intro q h hh hb
    have e : bt (nI x &&& (setF P n ^^^ -1)) h = false := by rw [q, b_0]
    rw [b_and, b_xor, b_m1 h (by omega), setF_bt P n (by omega) h (by omega), hb, decide_eq_true hh] at e
    by_cases z : P h
    · exact z
    · rw [decide_eq_false z] at e
      simp at e
  · intro q
    apply b_ext
    intro i hi
    rw [b_and, b_xor, b_m1 i hi, setF_bt P n (by omega) i hi, b_0]
    by_cases z : i < n
    · cases hb : bt (nI x) i with
      | false => rfl
      | true => rw [decide_eq_true z, decide_eq_true (q i z hb)]; rfl
    · rw [bt_small hx (by omega)]; rfl
