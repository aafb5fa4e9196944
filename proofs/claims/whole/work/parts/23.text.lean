def TXok (d : Nat → Int32) (u : Nat) : Prop := ∃ n, n ≤ 50 ∧ d (88 + u) = nI n ∧ wfC (fun j => d (110 + 50 * u + j)) n
/-- the class's Law at cell L holds the TEXT of use u of d -/
def LR (m : Mem) (L : Nat) (d : Nat → Int32) (u : Nat) : Prop := m L 3 = d (88 + u) ∧ m L 1 = (if u = 0 then 9 else 99) ∧ ∀ j, j < (d (88 + u)).toNatClampNeg → m (L + 1) j = encT (d (110 + 50 * u + j))
theorem held_mm {v mo : Int32} (h : 0 ≤ mo) : imax 0 (imin mo v) = heldF v 0 mo := by
  unfold imax imin heldF
  by_cases h1 : v < 0
  · rw [if_pos (Int32.lt_of_lt_of_le h1 h), if_neg (Int32.lt_asymm h1), if_pos h1]
  · rw [if_neg h1]
    by_cases h2 : v < mo
    · rw [if_pos h2, if_neg (Int32.lt_asymm h2)]
      by_cases h3 : 0 < v
      · rw [if_pos h3]
      · rw [if_neg h3]
        exact Int32.le_antisymm (Int32.not_lt.mp h1) (Int32.not_lt.mp h3)
    · rw [if_neg h2]
      by_cases h3 : 0 < mo
      · rw [if_pos h3]
        by_cases h4 : mo < v
        · rw [if_pos h4]
        · rw [if_neg h4]
          exact Int32.le_antisymm (Int32.not_lt.mp h2) (Int32.not_lt.mp h4)
      · rw [if_neg h3]
        have e : mo = 0 := Int32.le_antisymm (Int32.not_lt.mp h3) h
        subst e
        by_cases h4 : 0 < v
        · rw [if_pos h4]
        · rw [if_neg h4]
          exact Int32.le_antisymm (Int32.not_lt.mp h1) (Int32.not_lt.mp h4)
section TX
variable {l : Launch} {g : Gv}
set_option maxRecDepth 100000 in
theorem c_worked_39 (m : Mem) (code : Nat → Int32) (n : Nat) (a b c : Int32) (hn : n ≤ 50) (h0 : 0 < n) (hw : wfC code n) (hs : m 39 3 = nI n) (hc : ∀ j, j < n → m 40 j = encT (code j)) : JM l g 1 mX6_workedOut [rf g 39, .int a, .int b, .int c] m (RS (some (.int (evalF code n a b c))) (Sm [41] m)) := by
  refine JM_of (ls := [some (rf g 39), some (.int a), some (.int b), some (.int c), none, none, none]) pn_X6 rfl rfl ?_
  refine j_iconst 1 (v := 0) dX6_workedOut_0 rfl rfl ?_
  refine j_istore4 3 dX6_workedOut_1 rfl rfl rfl ?_
  refine j_iconst 4 (v := 0) dX6_workedOut_3 rfl rfl ?_
  refine j_istore5 6 dX6_workedOut_4 rfl rfl rfl ?_
  exact lp_worked_39 code n a b c hn hw n 0 m none (by omega) hs hc trivial (fun m' s1 p1 => ⟨by rw [PS_last (by intro q; have := runE_len (a := a) (b := b) (c := c) hw; rw [q] at this; obtain ⟨k, rfl⟩ : ∃ k, n = k + 1 := ⟨n - 1, by omega⟩; have := dep_pos hw; simp at *; omega) p1]; rfl, s1⟩)
set_option maxRecDepth 100000 in
theorem c_gives_39 (m : Mem) (d : Nat → Int32) (a b c : Int32) (ht : TXok d 0) (hr : LR m 39 d 0) : JM l g 2 mX6_gives [rf g 39, .int a, .int b, .int c] m (RS (some (.int (textG d 0 a b c))) (Sm [41] m)) := by
  refine JM_of (ls := [some (rf g 39), some (.int a), some (.int b), some (.int c), none]) pn_X6 rfl rfl ?_
  obtain ⟨n, hn, en, hw⟩ := ht
  obtain ⟨r1, r2, r3⟩ := hr
  rw [en, nI_clamp (by omega)] at r3
  refine j_aload0 1 dX6_gives_0 rfl ?_
  refine j_getI 4 dX6_gives_1 rfl fl_X6_29 rfl rfl ?_
  refine j_if_ne 11 7 dX6_gives_4 rfl rfl (fun h4 => ?_) (fun h4 => ?_)
  · have h0 : 0 < n := Nat.pos_of_ne_zero (fun q => h4 (by rw [r1, en, q]; rfl))
    refine j_aload0 12 dX6_gives_11 rfl ?_
    refine j_iload1 13 dX6_gives_12 rfl ?_
    refine j_iload2 14 dX6_gives_13 rfl ?_
    refine j_iload3 15 dX6_gives_14 rfl ?_
    refine j_vi3s 18 dX6_gives_15 rfl rfl cl_X6_51 rfl rfl (c_worked_39 m (fun j => d (110 + 50 * 0 + j)) n a b c hn h0 hw (by rw [r1, en]) r3) (fun m15 q15 => ?_)
    refine j_istore4 20 dX6_gives_18 rfl rfl rfl ?_
    refine j_iconst 21 (v := 0) dX6_gives_20 rfl rfl ?_
    refine j_aload0 22 dX6_gives_21 rfl ?_
    refine j_getI 25 dX6_gives_22 rfl fl_X6_25 rfl rfl ?_
    refine j_iload4 27 dX6_gives_25 rfl ?_
    refine j_mmin 30 dX6_gives_27 rfl rfl cl_X6_36 rfl ?_
    refine j_mmax 33 dX6_gives_30 rfl rfl cl_X6_42 rfl ?_
    refine j_iret dX6_gives_33 rfl ?_
    first | exact ⟨by rw [r2, held_mm (by decide)]; unfold textG; rw [if_neg (show ¬ 0 < d _ from by rw [← r1, h4]; decide)], Sm.rf⟩ | exact ⟨by rw [q15 39 (by decide), r2, held_mm (by decide)]; unfold textG; rw [if_pos (show 0 < d _ from by rw [en]; exact nI_lt (a := 0) (b := n) h0 (by omega)), en, nI_clamp (by omega)], q15⟩
  · refine j_iload1 8 dX6_gives_7 rfl ?_
    refine j_goto 18 dX6_gives_8 rfl ?_
    refine j_istore4 20 dX6_gives_18 rfl rfl rfl ?_
    refine j_iconst 21 (v := 0) dX6_gives_20 rfl rfl ?_
    refine j_aload0 22 dX6_gives_21 rfl ?_
    refine j_getI 25 dX6_gives_22 rfl fl_X6_25 rfl rfl ?_
    refine j_iload4 27 dX6_gives_25 rfl ?_
    refine j_mmin 30 dX6_gives_27 rfl rfl cl_X6_36 rfl ?_
    refine j_mmax 33 dX6_gives_30 rfl rfl cl_X6_42 rfl ?_
    refine j_iret dX6_gives_33 rfl ?_
    first | exact ⟨by rw [r2, held_mm (by decide)]; unfold textG; rw [if_neg (show ¬ 0 < d _ from by rw [← r1, h4]; decide)], Sm.rf⟩ | exact ⟨by rw [q15 39 (by decide), r2, held_mm (by decide)]; unfold textG; rw [if_pos (show 0 < d _ from by rw [en]; exact nI_lt (a := 0) (b := n) h0 (by omega)), en, nI_clamp (by omega)], q15⟩
set_option maxRecDepth 100000 in
theorem c_worked_43 (m : Mem) (code : Nat → Int32) (n : Nat) (a b c : Int32) (hn : n ≤ 50) (h0 : 0 < n) (hw : wfC code n) (hs : m 43 3 = nI n) (hc : ∀ j, j < n → m 44 j = encT (code j)) : JM l g 1 mX6_workedOut [rf g 43, .int a, .int b, .int c] m (RS (some (.int (evalF code n a b c))) (Sm [45] m)) := by
  refine JM_of (ls := [some (rf g 43), some (.int a), some (.int b), some (.int c), none, none, none]) pn_X6 rfl rfl ?_
  refine j_iconst 1 (v := 0) dX6_workedOut_0 rfl rfl ?_
  refine j_istore4 3 dX6_workedOut_1 rfl rfl rfl ?_
  refine j_iconst 4 (v := 0) dX6_workedOut_3 rfl rfl ?_
  refine j_istore5 6 dX6_workedOut_4 rfl rfl rfl ?_
  exact lp_worked_43 code n a b c hn hw n 0 m none (by omega) hs hc trivial (fun m' s1 p1 => ⟨by rw [PS_last (by intro q; have := runE_len (a := a) (b := b) (c := c) hw; rw [q] at this; obtain ⟨k, rfl⟩ : ∃ k, n = k + 1 := ⟨n - 1, by omega⟩; have := dep_pos hw; simp at *; omega) p1]; rfl, s1⟩)
set_option maxRecDepth 100000 in
theorem c_gives_43 (m : Mem) (d : Nat → Int32) (a b c : Int32) (ht : TXok d 1) (hr : LR m 43 d 1) : JM l g 2 mX6_gives [rf g 43, .int a, .int b, .int c] m (RS (some (.int (textG d 1 a b c))) (Sm [45] m)) := by
  refine JM_of (ls := [some (rf g 43), some (.int a), some (.int b), some (.int c), none]) pn_X6 rfl rfl ?_
  obtain ⟨n, hn, en, hw⟩ := ht
  obtain ⟨r1, r2, r3⟩ := hr
  rw [en, nI_clamp (by omega)] at r3
  refine j_aload0 1 dX6_gives_0 rfl ?_
  refine j_getI 4 dX6_gives_1 rfl fl_X6_29 rfl rfl ?_
  refine j_if_ne 11 7 dX6_gives_4 rfl rfl (fun h4 => ?_) (fun h4 => ?_)
  · have h0 : 0 < n := Nat.pos_of_ne_zero (fun q => h4 (by rw [r1, en, q]; rfl))
    refine j_aload0 12 dX6_gives_11 rfl ?_
    refine j_iload1 13 dX6_gives_12 rfl ?_
    refine j_iload2 14 dX6_gives_13 rfl ?_
    refine j_iload3 15 dX6_gives_14 rfl ?_
    refine j_vi3s 18 dX6_gives_15 rfl rfl cl_X6_51 rfl rfl (c_worked_43 m (fun j => d (110 + 50 * 1 + j)) n a b c hn h0 hw (by rw [r1, en]) r3) (fun m15 q15 => ?_)
    refine j_istore4 20 dX6_gives_18 rfl rfl rfl ?_
    refine j_iconst 21 (v := 0) dX6_gives_20 rfl rfl ?_
    refine j_aload0 22 dX6_gives_21 rfl ?_
    refine j_getI 25 dX6_gives_22 rfl fl_X6_25 rfl rfl ?_
    refine j_iload4 27 dX6_gives_25 rfl ?_
    refine j_mmin 30 dX6_gives_27 rfl rfl cl_X6_36 rfl ?_
    refine j_mmax 33 dX6_gives_30 rfl rfl cl_X6_42 rfl ?_
    refine j_iret dX6_gives_33 rfl ?_
    first | exact ⟨by rw [r2, held_mm (by decide)]; unfold textG; rw [if_neg (show ¬ 0 < d _ from by rw [← r1, h4]; decide)], Sm.rf⟩ | exact ⟨by rw [q15 43 (by decide), r2, held_mm (by decide)]; unfold textG; rw [if_pos (show 0 < d _ from by rw [en]; exact nI_lt (a := 0) (b := n) h0 (by omega)), en, nI_clamp (by omega)], q15⟩
  · refine j_iload1 8 dX6_gives_7 rfl ?_
    refine j_goto 18 dX6_gives_8 rfl ?_
    refine j_istore4 20 dX6_gives_18 rfl rfl rfl ?_
    refine j_iconst 21 (v := 0) dX6_gives_20 rfl rfl ?_
    refine j_aload0 22 dX6_gives_21 rfl ?_
    refine j_getI 25 dX6_gives_22 rfl fl_X6_25 rfl rfl ?_
    refine j_iload4 27 dX6_gives_25 rfl ?_
    refine j_mmin 30 dX6_gives_27 rfl rfl cl_X6_36 rfl ?_
    refine j_mmax 33 dX6_gives_30 rfl rfl cl_X6_42 rfl ?_
    refine j_iret dX6_gives_33 rfl ?_
    first | exact ⟨by rw [r2, held_mm (by decide)]; unfold textG; rw [if_neg (show ¬ 0 < d _ from by rw [← r1, h4]; decide)], Sm.rf⟩ | exact ⟨by rw [q15 43 (by decide), r2, held_mm (by decide)]; unfold textG; rw [if_pos (show 0 < d _ from by rw [en]; exact nI_lt (a := 0) (b := n) h0 (by omega)), en, nI_clamp (by omega)], q15⟩
set_option maxRecDepth 100000 in
theorem lp_mworked {Q : Option Value → Mem → Prop} (code : Nat → Int32) (n f : Nat) (a b c : Int32) (hn : n ≤ 50) (hf : f + 50 ≤ 260) (hw : wfC code n) : ∀ (k i : Nat) (m : Mem) (o : Option Value), i + k = n → (∀ j, j < n → m 69 (f + j) = code j) → (m 73 0 = a ∧ m 73 1 = b ∧ m 73 2 = c) → PS (m 75) (runE a b c code i) → (∀ m', Sm [75] m m' → PS (m' 75) (runE a b c code n) → Q (some (.int (m' 75 0))) m') → J l g 1 mX12_worked 5 [some (rf g 68), some (.int (nI f)), some (.int (nI n)), some (.int (nI (dep code i))), some (.int (nI (f + i))), o] [] m Q := by
  intro k
  induction k with
  | zero =>
    intro i m o hi hc hnm hp hq
    have e : i = n := by omega
    subst e
    refine j_iload4 7 dX12_worked_5 rfl ?_
    refine j_iload1 8 dX12_worked_7 rfl ?_
    refine j_iload2 9 dX12_worked_8 rfl ?_
    refine j_iaddN 10 dX12_worked_9 rfl ?_
    refine j_cmp_ge 141 13 dX12_worked_10 rfl rfl (fun h10 => ?_) (fun h10 => absurd (Int32.le_refl _) h10)
    refine j_aload0 142 dX12_worked_141 rfl ?_
    refine j_getR 145 dX12_worked_142 rfl fl_X12_28 rfl rfl ?_
    refine j_iconst 146 (v := 0) dX12_worked_145 rfl rfl ?_
    refine j_iald 147 0 rfl (by first | assumption | decide | omega) dX12_worked_146 rfl rfl ?_
    refine j_iret dX12_worked_147 rfl ?_
    exact hq m Sm.rf hp
  | succ k ih =>
    intro i m o hi hc hnm hp hq
    have hd : dep code i ≤ i := dep_le code i
    have hl := runE_len (a := a) (b := b) (c := c) (n := i) (fun j hj => hw j (by omega))
    have htok := hw i (by omega)
    have e2 : nI (f + i) + 1 = nI (f + (i + 1)) := nI_1 (f + i)
    refine j_iload4 7 dX12_worked_5 rfl ?_
    refine j_iload1 8 dX12_worked_7 rfl ?_
    refine j_iload2 9 dX12_worked_8 rfl ?_
    refine j_iaddN 10 dX12_worked_9 rfl ?_
    refine j_cmp_ge 141 13 dX12_worked_10 rfl rfl (fun h10 => absurd h10 (nI_ge (by omega) (by omega))) (fun h10 => ?_)
    refine j_aload0 14 dX12_worked_13 rfl ?_
    refine j_getR 17 dX12_worked_14 rfl fl_X12_7 rfl rfl ?_
    refine j_iload4 19 dX12_worked_17 rfl ?_
    refine j_iald 20 _ rfl (show f + i < 260 by omega) dX12_worked_19 rfl rfl ?_
    refine j_top (hc i (by omega)) ?_
    refine j_istore5 22 dX12_worked_20 rfl rfl rfl ?_
    rcases htok with ⟨x, hx, ex⟩ | ⟨ex, h1⟩ | ⟨⟨x, h3, hx, hne, ex⟩, h2⟩
    · have hstep : runE a b c code (i + 1) = tokV a b c (code i) :: runE a b c code i := stepE_A (by rw [ex]; exact n20 hx)
      have hdep : dep code (i + 1) = dep code i + 1 := if_pos (by rw [ex]; exact n20 hx)
      have e1 : nI (dep code i) + 1 = nI (dep code (i + 1)) := by rw [hdep]; exact nI_1 _
      have fin : ∀ v : Int32, v = tokV a b c (code i) → J l g 1 mX12_worked 5 [some (rf g 68), some (.int (nI f)), some (.int (nI n)), some (.int (nI (dep code i) + 1)), some (.int (nI (f + i) + 1)), some (.int (code i))] [] (up2 m 75 (dep code i) v) Q := by
        intro v hv
        rw [e1, e2, hv]
        exact ih (i + 1) _ _ (by omega) (fun j hj => by rw [up2_a (by decide)]; exact hc j hj) (by rw [up2_a (by decide), up2_a (by decide), up2_a (by decide)]; exact hnm) (by rw [hstep]; exact PS_put hl hp) (fun m' s1 p1 => hq m' ((Sm.up Sm.rf (by decide)).trans s1) p1)
      refine j_iload5 24 dX12_worked_22 rfl ?_
      refine j_sipush 27 (v := 20000) dX12_worked_24 rfl rfl ?_
      refine j_cmp_ge 66 30 dX12_worked_27 rfl rfl (fun h27 => absurd h27 (Int32.not_le.mpr (by rw [ex]; exact n20 hx))) (fun h27 => ?_)
      refine j_aload0 31 dX12_worked_30 rfl ?_
      refine j_getR 34 dX12_worked_31 rfl fl_X12_28 rfl rfl ?_
      refine j_iload3 35 dX12_worked_34 rfl ?_
      refine j_iload5 37 dX12_worked_35 rfl ?_
      refine j_sipush 40 (v := 10000) dX12_worked_37 rfl rfl ?_
      skip
      refine j_cmp_ge 48 43 dX12_worked_40 rfl rfl (fun h40 => ?_) (fun h40 => ?_)
      · refine j_aload0 49 dX12_worked_48 rfl ?_
        refine j_getR 52 dX12_worked_49 rfl fl_X12_22 rfl rfl ?_
        refine j_iload5 54 dX12_worked_52 rfl ?_
        refine j_sipush 57 (v := 10000) dX12_worked_54 rfl rfl ?_
        skip
        refine j_isub 58 dX12_worked_57 rfl ?_
        refine j_iald 59 (x - 10000) (by rw [ex]; exact pk_sub (a := x) (b := 10000) (by have := h40; rw [ex] at this; have := (nI_leI (a := 10000) (b := x) (by decide) (by omega)).mp this; omega)) (show x - 10000 < 3 by omega) dX12_worked_58 rfl rfl ?_
        refine j_iast 60 _ rfl (show dep code i < 60 by omega) dX12_worked_59 rfl rfl ?_
        refine j_iinc3 63 (1) dX12_worked_60 rfl rfl rfl rfl ?_
        refine j_goto 135 dX12_worked_63 rfl ?_
        refine j_iinc4 138 (1) dX12_worked_135 rfl rfl rfl rfl ?_
        refine j_goto 5 dX12_worked_138 rfl ?_
        first | exact fin _ (by rw [tokV, if_pos (Int32.not_le.mp h40)]) | exact fin _ (by
            have hx2 : 10000 ≤ x := by have := h40; rw [ex] at this; exact (nI_leI (a := 10000) (b := x) (by decide) (by omega)).mp this
            rw [tokV, if_neg (Int32.not_lt.mpr h40), ex]
            rcases (show x = 10000 ∨ x = 10001 ∨ x = 10002 by omega) with rfl | rfl | rfl
            · exact hnm.1
            · exact hnm.2.1
            · exact hnm.2.2)
      · refine j_iload5 45 dX12_worked_43 rfl ?_
        refine j_goto 59 dX12_worked_45 rfl ?_
        refine j_iast 60 _ rfl (show dep code i < 60 by omega) dX12_worked_59 rfl rfl ?_
        refine j_iinc3 63 (1) dX12_worked_60 rfl rfl rfl rfl ?_
        refine j_goto 135 dX12_worked_63 rfl ?_
        refine j_iinc4 138 (1) dX12_worked_135 rfl rfl rfl rfl ?_
        refine j_goto 5 dX12_worked_138 rfl ?_
        first | exact fin _ (by rw [tokV, if_pos (Int32.not_le.mp h40)]) | exact fin _ (by
            have hx2 : 10000 ≤ x := by have := h40; rw [ex] at this; exact (nI_leI (a := 10000) (b := x) (by decide) (by omega)).mp this
            rw [tokV, if_neg (Int32.not_lt.mpr h40), ex]
            rcases (show x = 10000 ∨ x = 10001 ∨ x = 10002 by omega) with rfl | rfl | rfl
            · exact hnm.1
            · exact hnm.2.1
            · exact hnm.2.2)
    · have hdep : dep code (i + 1) = dep code i := by show (if code i < 20000 then _ else _) = _; rw [if_neg (by rw [ex]; decide), if_pos ex]
      obtain ⟨z, r, hzr⟩ : ∃ z r, runE a b c code i = z :: r := by
        match hh : runE a b c code i with
        | z :: r => exact ⟨z, r, rfl⟩
        | [] => rw [hh] at hl; simp at hl; omega
      have hstep : runE a b c code (i + 1) = bz (z = 0) :: r := by show stepE a b c (code i) (runE a b c code i) = _; rw [ex, hzr]; rfl
      rw [hzr] at hp hl
      have hl : r.length + 1 = dep code i := by simpa using hl
      have hz : m 75 (dep code i - 1) = z := by rw [← hp.1, ← hl]; rfl
      have ed : nI (dep code i) - 1 = nI (dep code i - 1) := pk_sub (b := 1) h1
      have fin : ∀ v : Int32, v = bz (z = 0) → J l g 1 mX12_worked 5 [some (rf g 68), some (.int (nI f)), some (.int (nI n)), some (.int (nI (dep code i))), some (.int (nI (f + i) + 1)), some (.int (code i))] [] (up2 m 75 (dep code i - 1) v) Q := by
        intro v hv
        rw [← hdep, e2]
        exact ih (i + 1) _ _ (by omega) (fun j hj => by rw [up2_a (by decide)]; exact hc j hj) (by rw [up2_a (by decide), up2_a (by decide), up2_a (by decide)]; exact hnm) (by rw [hstep, hv, hdep]; exact PS_put (by omega) hp.2) (fun m' s1 p1 => hq m' ((Sm.up Sm.rf (by decide)).trans s1) p1)
      refine j_iload5 24 dX12_worked_22 rfl ?_
      refine j_sipush 27 (v := 20000) dX12_worked_24 rfl rfl ?_
      refine j_cmp_ge 66 30 dX12_worked_27 rfl rfl (fun h27 => ?_) (fun h27 => absurd (by rw [ex]; decide) h27)
      refine j_iload5 68 dX12_worked_66 rfl ?_
      refine j_sipush 71 (v := 20033) dX12_worked_68 rfl rfl ?_
      refine j_cmp_ne 101 74 dX12_worked_71 rfl rfl (fun h71 => absurd h71 (fun q => q ex)) (fun h71 => ?_)
      refine j_aload0 75 dX12_worked_74 rfl ?_
      refine j_getR 78 dX12_worked_75 rfl fl_X12_28 rfl rfl ?_
      refine j_iload3 79 dX12_worked_78 rfl ?_
      refine j_iconst 80 (v := 1) dX12_worked_79 rfl rfl ?_
      refine j_isub 81 dX12_worked_80 rfl ?_
      refine j_top ed ?_
      refine j_aload0 82 dX12_worked_81 rfl ?_
      refine j_getR 85 dX12_worked_82 rfl fl_X12_28 rfl rfl ?_
      refine j_iload3 86 dX12_worked_85 rfl ?_
      refine j_iconst 87 (v := 1) dX12_worked_86 rfl rfl ?_
      refine j_isub 88 dX12_worked_87 rfl ?_
      refine j_top ed ?_
      refine j_iald 89 _ rfl (show dep code i - 1 < 60 by omega) dX12_worked_88 rfl rfl ?_
      refine j_top hz ?_
      refine j_if_ne 96 92 dX12_worked_89 rfl rfl (fun h89 => ?_) (fun h89 => ?_)
      · refine j_iconst 97 (v := 0) dX12_worked_96 rfl rfl ?_
        refine j_iast 98 _ rfl (show dep code i - 1 < 60 by omega) dX12_worked_97 rfl rfl ?_
        refine j_goto 135 dX12_worked_98 rfl ?_
        refine j_iinc4 138 (1) dX12_worked_135 rfl rfl rfl rfl ?_
        refine j_goto 5 dX12_worked_138 rfl ?_
        first | exact fin _ (bz_f h89).symm | exact fin _ (bz_t h89).symm
      · refine j_iconst 93 (v := 1) dX12_worked_92 rfl rfl ?_
        refine j_goto 97 dX12_worked_93 rfl ?_
        refine j_iast 98 _ rfl (show dep code i - 1 < 60 by omega) dX12_worked_97 rfl rfl ?_
        refine j_goto 135 dX12_worked_98 rfl ?_
        refine j_iinc4 138 (1) dX12_worked_135 rfl rfl rfl rfl ?_
        refine j_goto 5 dX12_worked_138 rfl ?_
        first | exact fin _ (bz_f h89).symm | exact fin _ (bz_t h89).symm
    · have hA : ¬ code i < 20000 := by rw [ex]; exact n20' hx
      have hB : ¬ code i = 20033 := by rw [ex]; exact n33 hx hne
      have hdep : dep code (i + 1) = dep code i - 1 := by show (if code i < 20000 then _ else _) = _; rw [if_neg hA, if_neg hB]
      obtain ⟨z, w, r, hzr⟩ : ∃ z w r, runE a b c code i = z :: w :: r := by
        match hh : runE a b c code i with
        | z :: w :: r => exact ⟨z, w, r, rfl⟩
        | [z] => rw [hh] at hl; simp at hl; omega
        | [] => rw [hh] at hl; simp at hl; omega
      have hstep : runE a b c code (i + 1) = opF (code i - 20000) w z :: r := by show stepE a b c (code i) (runE a b c code i) = _; rw [hzr, stepE_C hA hB]
      rw [hzr] at hp hl
      have hl : r.length + 2 = dep code i := by simpa using hl
      have hz : m 75 (dep code i - 1) = z := by rw [← hp.1, ← hl]; rfl
      have hw2 : m 75 (dep code i - 1 - 1) = w := by rw [← hp.2.1, ← hl]; rfl
      have e4 : nI (dep code i) + -1 = nI (dep code i - 1) := by have := pk_m1 (dep code i - 1); rw [show dep code i - 1 + 1 = dep code i by omega] at this; exact this
      have e5 : nI (dep code i - 1) - 1 = nI (dep code i - 1 - 1) := pk_sub (b := 1) (by omega)
      refine j_iload5 24 dX12_worked_22 rfl ?_
      refine j_sipush 27 (v := 20000) dX12_worked_24 rfl rfl ?_
      refine j_cmp_ge 66 30 dX12_worked_27 rfl rfl (fun h27 => ?_) (fun h27 => absurd (Int32.not_lt.mp hA) h27)
      refine j_iload5 68 dX12_worked_66 rfl ?_
      refine j_sipush 71 (v := 20033) dX12_worked_68 rfl rfl ?_
      refine j_cmp_ne 101 74 dX12_worked_71 rfl rfl (fun h71 => ?_) (fun h71 => absurd h71 hB)
      refine j_iinc3 104 (-1) dX12_worked_101 rfl rfl rfl rfl ?_
      rw [e4]
      refine j_aload0 105 dX12_worked_104 rfl ?_
      refine j_getR 108 dX12_worked_105 rfl fl_X12_28 rfl rfl ?_
      refine j_iload3 109 dX12_worked_108 rfl ?_
      refine j_iconst 110 (v := 1) dX12_worked_109 rfl rfl ?_
      refine j_isub 111 dX12_worked_110 rfl ?_
      refine j_top e5 ?_
      refine j_iload5 113 dX12_worked_111 rfl ?_
      refine j_sipush 116 (v := 20000) dX12_worked_113 rfl rfl ?_
      refine j_isub 117 dX12_worked_116 rfl ?_
      refine j_aload0 118 dX12_worked_117 rfl ?_
      refine j_getR 121 dX12_worked_118 rfl fl_X12_28 rfl rfl ?_
      refine j_iload3 122 dX12_worked_121 rfl ?_
      refine j_iconst 123 (v := 1) dX12_worked_122 rfl rfl ?_
      refine j_isub 124 dX12_worked_123 rfl ?_
      refine j_top e5 ?_
      refine j_iald 125 _ rfl (show dep code i - 1 - 1 < 60 by omega) dX12_worked_124 rfl rfl ?_
      refine j_top hw2 ?_
      refine j_aload0 126 dX12_worked_125 rfl ?_
      refine j_getR 129 dX12_worked_126 rfl fl_X12_28 rfl rfl ?_
      refine j_iload3 130 dX12_worked_129 rfl ?_
      refine j_iald 131 _ rfl (show dep code i - 1 < 60 by omega) dX12_worked_130 rfl rfl ?_
      refine j_top hz ?_
      refine j_st3f 134 dX12_worked_131 rfl rfl cl_X12_120 rfl (c_done m _ w z) ?_
      refine j_iast 135 _ rfl (show dep code i - 1 - 1 < 60 by omega) dX12_worked_134 rfl rfl ?_
      refine j_iinc4 138 (1) dX12_worked_135 rfl rfl rfl rfl ?_
      refine j_goto 5 dX12_worked_138 rfl ?_
      rw [← hdep, e2]
      exact ih (i + 1) _ _ (by omega) (fun j hj => by rw [up2_a (by decide)]; exact hc j hj) (by rw [up2_a (by decide), up2_a (by decide), up2_a (by decide)]; exact hnm) (by rw [hstep, hdep]; exact PS_put (by omega) hp.2.2) (fun m' s1 p1 => hq m' ((Sm.up Sm.rf (by decide)).trans s1) p1)
set_option maxRecDepth 100000 in
theorem c_mworked (m : Mem) (code : Nat → Int32) (n f : Nat) (a b c : Int32) (hn : n ≤ 50) (h0 : 0 < n) (hf : f + 50 ≤ 260) (hw : wfC code n) (hc : ∀ j, j < n → m 69 (f + j) = code j) (hnm : m 73 0 = a ∧ m 73 1 = b ∧ m 73 2 = c) : JM l g 1 mX12_worked [rf g 68, .int (nI f), .int (nI n)] m (RS (some (.int (evalF code n a b c))) (Sm [75] m)) := by
  refine JM_of (ls := [some (rf g 68), some (.int (nI f)), some (.int (nI n)), none, none, none]) pn_X12 rfl rfl ?_
  refine j_iconst 1 (v := 0) dX12_worked_0 rfl rfl ?_
  refine j_istore3 2 dX12_worked_1 rfl rfl rfl ?_
  refine j_iload1 3 dX12_worked_2 rfl ?_
  refine j_istore4 5 dX12_worked_3 rfl rfl rfl ?_
  exact lp_mworked code n f a b c hn hf hw n 0 m none (by omega) hc hnm trivial (fun m' s1 p1 => ⟨by rw [PS_last (by intro q; have := runE_len (a := a) (b := b) (c := c) hw; rw [q] at this; obtain ⟨k, rfl⟩ : ∃ k, n = k + 1 := ⟨n - 1, by omega⟩; have := dep_pos hw; simp at *; omega) p1]; rfl, s1⟩)
set_option maxRecDepth 100000 in
theorem c_textG_0 (m : Mem) (a b c : Int32) (ht : TXok (m 69) 0) : JM l g 2 mX12_textGives [rf g 68, .int 0, .int a, .int b, .int c] m (RS (some (.int (textG (m 69) 0 a b c))) (Sm [73, 75] m)) := by
  refine JM_of (ls := [some (rf g 68), some (.int 0), some (.int a), some (.int b), some (.int c), none]) pn_X12 rfl rfl ?_
  obtain ⟨n, hn, en, hw⟩ := ht
  refine j_iload2 1 dX12_textGives_0 rfl ?_
  refine j_istore5 3 dX12_textGives_1 rfl rfl rfl ?_
  refine j_aload0 4 dX12_textGives_3 rfl ?_
  refine j_getR 7 dX12_textGives_4 rfl fl_X12_7 rfl rfl ?_
  refine j_bipush 9 (v := 88) dX12_textGives_7 rfl rfl ?_
  refine j_iload1 10 dX12_textGives_9 rfl ?_
  refine j_iadd 11 dX12_textGives_10 rfl ?_
  refine j_iald 12 88 (by decide) (by decide) dX12_textGives_11 rfl rfl ?_
  refine j_if_le 59 15 dX12_textGives_12 rfl rfl (fun h12 => ?_) (fun h12 => ?_)
  · refine j_iload5 61 dX12_textGives_59 rfl ?_
    refine j_iconst 62 (v := 0) dX12_textGives_61 rfl rfl ?_
    refine j_iload1 63 dX12_textGives_62 rfl ?_
    refine j_if_ne 71 66 dX12_textGives_63 rfl rfl (fun h63 => absurd h63 (by decide)) (fun h63 => ?_)
    refine j_bipush 68 (v := 9) dX12_textGives_66 rfl rfl ?_
    refine j_goto 73 dX12_textGives_68 rfl ?_
    refine j_st3f 76 dX12_textGives_73 rfl rfl cl_X12_139 rfl (c_held _ _ 0 9) ?_
    refine j_iret dX12_textGives_76 rfl ?_
    first | exact ⟨by unfold textG; rw [if_neg (show ¬ 0 < m 69 (88 + 0) from Int32.not_lt.mpr h12)]; rfl, Sm.rf⟩ | exact ⟨by unfold textG; rw [if_pos (show 0 < m 69 (88 + 0) from Int32.not_le.mp h12), en, nI_clamp (by omega)]; rfl, ((Sm.up (Sm.up (Sm.up Sm.rf (by decide)) (by decide)) (by decide)).trans (q54.mono (by decide)))⟩
  · have h0 : 0 < n := Nat.pos_of_ne_zero (fun q => h12 (by rw [show m 69 88 = nI n from en, q]; decide))
    refine j_aload0 16 dX12_textGives_15 rfl ?_
    refine j_getR 19 dX12_textGives_16 rfl fl_X12_22 rfl rfl ?_
    refine j_iconst 20 (v := 0) dX12_textGives_19 rfl rfl ?_
    refine j_iload2 21 dX12_textGives_20 rfl ?_
    refine j_iast 22 0 rfl (by decide) dX12_textGives_21 rfl rfl ?_
    refine j_aload0 23 dX12_textGives_22 rfl ?_
    refine j_getR 26 dX12_textGives_23 rfl fl_X12_22 rfl rfl ?_
    refine j_iconst 27 (v := 1) dX12_textGives_26 rfl rfl ?_
    refine j_iload3 28 dX12_textGives_27 rfl ?_
    refine j_iast 29 1 rfl (by decide) dX12_textGives_28 rfl rfl ?_
    refine j_aload0 30 dX12_textGives_29 rfl ?_
    refine j_getR 33 dX12_textGives_30 rfl fl_X12_22 rfl rfl ?_
    refine j_iconst 34 (v := 2) dX12_textGives_33 rfl rfl ?_
    refine j_iload4 36 dX12_textGives_34 rfl ?_
    refine j_iast 37 2 rfl (by decide) dX12_textGives_36 rfl rfl ?_
    refine j_aload0 38 dX12_textGives_37 rfl ?_
    refine j_bipush 40 (v := 110) dX12_textGives_38 rfl rfl ?_
    refine j_bipush 42 (v := 50) dX12_textGives_40 rfl rfl ?_
    refine j_iload1 43 dX12_textGives_42 rfl ?_
    refine j_imul 44 dX12_textGives_43 rfl ?_
    refine j_iadd 45 dX12_textGives_44 rfl ?_
    refine j_top (z := nI 110) (by decide) ?_
    refine j_aload0 46 dX12_textGives_45 rfl ?_
    refine j_getR 49 dX12_textGives_46 rfl fl_X12_7 rfl rfl ?_
    refine j_bipush 51 (v := 88) dX12_textGives_49 rfl rfl ?_
    refine j_iload1 52 dX12_textGives_51 rfl ?_
    refine j_iadd 53 dX12_textGives_52 rfl ?_
    refine j_iald 54 88 (by decide) (by decide) dX12_textGives_53 rfl rfl ?_
    refine j_top (z := nI n) (by rw [up2_a (by decide), up2_a (by decide), up2_a (by decide)]; exact en) ?_
    refine j_vi2s 57 dX12_textGives_54 rfl rfl cl_X12_135 rfl rfl (c_mworked (f := 110) _ (fun j => m 69 (110 + 50 * 0 + j)) n a b c hn h0 (by decide) hw (fun j hj => by rw [up2_a (by decide), up2_a (by decide), up2_a (by decide)]) ⟨by rw [up2_k (by decide), up2_k (by decide), up2_s], by rw [up2_k (by decide), up2_s], by rw [up2_s]⟩) (fun m54 q54 => ?_)
    refine j_istore5 59 dX12_textGives_57 rfl rfl rfl ?_
    refine j_iload5 61 dX12_textGives_59 rfl ?_
    refine j_iconst 62 (v := 0) dX12_textGives_61 rfl rfl ?_
    refine j_iload1 63 dX12_textGives_62 rfl ?_
    refine j_if_ne 71 66 dX12_textGives_63 rfl rfl (fun h63 => absurd h63 (by decide)) (fun h63 => ?_)
    refine j_bipush 68 (v := 9) dX12_textGives_66 rfl rfl ?_
    refine j_goto 73 dX12_textGives_68 rfl ?_
    refine j_st3f 76 dX12_textGives_73 rfl rfl cl_X12_139 rfl (c_held _ _ 0 9) ?_
    refine j_iret dX12_textGives_76 rfl ?_
    first | exact ⟨by unfold textG; rw [if_neg (show ¬ 0 < m 69 (88 + 0) from Int32.not_lt.mpr h12)]; rfl, Sm.rf⟩ | exact ⟨by unfold textG; rw [if_pos (show 0 < m 69 (88 + 0) from Int32.not_le.mp h12), en, nI_clamp (by omega)]; rfl, ((Sm.up (Sm.up (Sm.up Sm.rf (by decide)) (by decide)) (by decide)).trans (q54.mono (by decide)))⟩
set_option maxRecDepth 100000 in
theorem c_textG_1 (m : Mem) (a b c : Int32) (ht : TXok (m 69) 1) : JM l g 2 mX12_textGives [rf g 68, .int 1, .int a, .int b, .int c] m (RS (some (.int (textG (m 69) 1 a b c))) (Sm [73, 75] m)) := by
  refine JM_of (ls := [some (rf g 68), some (.int 1), some (.int a), some (.int b), some (.int c), none]) pn_X12 rfl rfl ?_
  obtain ⟨n, hn, en, hw⟩ := ht
  refine j_iload2 1 dX12_textGives_0 rfl ?_
  refine j_istore5 3 dX12_textGives_1 rfl rfl rfl ?_
  refine j_aload0 4 dX12_textGives_3 rfl ?_
  refine j_getR 7 dX12_textGives_4 rfl fl_X12_7 rfl rfl ?_
  refine j_bipush 9 (v := 88) dX12_textGives_7 rfl rfl ?_
  refine j_iload1 10 dX12_textGives_9 rfl ?_
  refine j_iadd 11 dX12_textGives_10 rfl ?_
  refine j_iald 12 89 (by decide) (by decide) dX12_textGives_11 rfl rfl ?_
  refine j_if_le 59 15 dX12_textGives_12 rfl rfl (fun h12 => ?_) (fun h12 => ?_)
  · refine j_iload5 61 dX12_textGives_59 rfl ?_
    refine j_iconst 62 (v := 0) dX12_textGives_61 rfl rfl ?_
    refine j_iload1 63 dX12_textGives_62 rfl ?_
    refine j_if_ne 71 66 dX12_textGives_63 rfl rfl (fun h63 => ?_) (fun h63 => absurd h63 (by decide))
    refine j_bipush 73 (v := 99) dX12_textGives_71 rfl rfl ?_
    refine j_st3f 76 dX12_textGives_73 rfl rfl cl_X12_139 rfl (c_held _ _ 0 99) ?_
    refine j_iret dX12_textGives_76 rfl ?_
    first | exact ⟨by unfold textG; rw [if_neg (show ¬ 0 < m 69 (88 + 1) from Int32.not_lt.mpr h12)]; rfl, Sm.rf⟩ | exact ⟨by unfold textG; rw [if_pos (show 0 < m 69 (88 + 1) from Int32.not_le.mp h12), en, nI_clamp (by omega)]; rfl, ((Sm.up (Sm.up (Sm.up Sm.rf (by decide)) (by decide)) (by decide)).trans (q54.mono (by decide)))⟩
  · have h0 : 0 < n := Nat.pos_of_ne_zero (fun q => h12 (by rw [show m 69 89 = nI n from en, q]; decide))
    refine j_aload0 16 dX12_textGives_15 rfl ?_
    refine j_getR 19 dX12_textGives_16 rfl fl_X12_22 rfl rfl ?_
    refine j_iconst 20 (v := 0) dX12_textGives_19 rfl rfl ?_
    refine j_iload2 21 dX12_textGives_20 rfl ?_
    refine j_iast 22 0 rfl (by decide) dX12_textGives_21 rfl rfl ?_
    refine j_aload0 23 dX12_textGives_22 rfl ?_
    refine j_getR 26 dX12_textGives_23 rfl fl_X12_22 rfl rfl ?_
    refine j_iconst 27 (v := 1) dX12_textGives_26 rfl rfl ?_
    refine j_iload3 28 dX12_textGives_27 rfl ?_
    refine j_iast 29 1 rfl (by decide) dX12_textGives_28 rfl rfl ?_
    refine j_aload0 30 dX12_textGives_29 rfl ?_
    refine j_getR 33 dX12_textGives_30 rfl fl_X12_22 rfl rfl ?_
    refine j_iconst 34 (v := 2) dX12_textGives_33 rfl rfl ?_
    refine j_iload4 36 dX12_textGives_34 rfl ?_
    refine j_iast 37 2 rfl (by decide) dX12_textGives_36 rfl rfl ?_
    refine j_aload0 38 dX12_textGives_37 rfl ?_
    refine j_bipush 40 (v := 110) dX12_textGives_38 rfl rfl ?_
    refine j_bipush 42 (v := 50) dX12_textGives_40 rfl rfl ?_
    refine j_iload1 43 dX12_textGives_42 rfl ?_
    refine j_imul 44 dX12_textGives_43 rfl ?_
    refine j_iadd 45 dX12_textGives_44 rfl ?_
    refine j_top (z := nI 160) (by decide) ?_
    refine j_aload0 46 dX12_textGives_45 rfl ?_
    refine j_getR 49 dX12_textGives_46 rfl fl_X12_7 rfl rfl ?_
    refine j_bipush 51 (v := 88) dX12_textGives_49 rfl rfl ?_
    refine j_iload1 52 dX12_textGives_51 rfl ?_
    refine j_iadd 53 dX12_textGives_52 rfl ?_
    refine j_iald 54 89 (by decide) (by decide) dX12_textGives_53 rfl rfl ?_
    refine j_top (z := nI n) (by rw [up2_a (by decide), up2_a (by decide), up2_a (by decide)]; exact en) ?_
    refine j_vi2s 57 dX12_textGives_54 rfl rfl cl_X12_135 rfl rfl (c_mworked (f := 160) _ (fun j => m 69 (110 + 50 * 1 + j)) n a b c hn h0 (by decide) hw (fun j hj => by rw [up2_a (by decide), up2_a (by decide), up2_a (by decide)]) ⟨by rw [up2_k (by decide), up2_k (by decide), up2_s], by rw [up2_k (by decide), up2_s], by rw [up2_s]⟩) (fun m54 q54 => ?_)
    refine j_istore5 59 dX12_textGives_57 rfl rfl rfl ?_
    refine j_iload5 61 dX12_textGives_59 rfl ?_
    refine j_iconst 62 (v := 0) dX12_textGives_61 rfl rfl ?_
    refine j_iload1 63 dX12_textGives_62 rfl ?_
    refine j_if_ne 71 66 dX12_textGives_63 rfl rfl (fun h63 => ?_) (fun h63 => absurd h63 (by decide))
    refine j_bipush 73 (v := 99) dX12_textGives_71 rfl rfl ?_
    refine j_st3f 76 dX12_textGives_73 rfl rfl cl_X12_139 rfl (c_held _ _ 0 99) ?_
    refine j_iret dX12_textGives_76 rfl ?_
    first | exact ⟨by unfold textG; rw [if_neg (show ¬ 0 < m 69 (88 + 1) from Int32.not_lt.mpr h12)]; rfl, Sm.rf⟩ | exact ⟨by unfold textG; rw [if_pos (show 0 < m 69 (88 + 1) from Int32.not_le.mp h12), en, nI_clamp (by omega)]; rfl, ((Sm.up (Sm.up (Sm.up Sm.rf (by decide)) (by decide)) (by decide)).trans (q54.mono (by decide)))⟩
end TX
