def sumF (f : Nat → Int32) : Nat → Int32
  | 0 => 0
  | n + 1 => sumF f n + f n
theorem sumF_congr {f f' : Nat → Int32} : ∀ {n : Nat}, (∀ i, i < n → f i = f' i) → sumF f n = sumF f' n
  | 0, _ => rfl
  | n + 1, h => by
    show sumF f n + f n = sumF f' n + f' n
    rw [sumF_congr (fun i hi => h i (by omega)), h n (by omega)]
section O5
variable {l : Launch} {g : Gv}
set_option maxRecDepth 100000 in
theorem lp_dustAt_9 {Q : Option Value → Mem → Prop} (d : Nat → Int32) (w : WF d) (m : Mem) (s : Int32) (hs : s ≠ -1) (hT : TR 9 m d) (hq : Q (some (.int (setF (fun h => hf d h 4 = s) (hn d)))) m) : ∀ (k h : Nat), h + k = hn d → J l g 1 mX10_dustAt 4 [some (rf g 9), some (.int s), some (.int (setF (fun h => hf d h 4 = s) h)), some (.int (nI h))] [] m Q := by
  have wn := w.n
  intro k
  induction k with
  | zero =>
    intro h e
    have e : h = hn d := by omega
    subst e
    refine j_iload3 5 dX10_dustAt_4 rfl ?_
    refine j_aload0 6 dX10_dustAt_5 rfl ?_
    refine j_getI 9 dX10_dustAt_6 rfl fl_X10_53 rfl rfl ?_
    refine j_cmp_ge 42 12 dX10_dustAt_9 rfl rfl (fun h9 => ?_) (fun h9 => absurd (by rw [hT.1, wn.2]; exact Int32.le_refl _) h9)
    refine j_iload2 43 dX10_dustAt_42 rfl ?_
    refine j_iret dX10_dustAt_43 rfl ?_
    exact hq
  | succ k ih =>
    intro h e
    have e2 : nI h + 1 = nI (h + 1) := nI_1 h
    have hh : h < 8 := by omega
    have f3 : m 15 h = hf d h 3 := hT.2.2.2.2.2.2.2 h hh 3 (by decide)
    have f4 : m 16 h = hf d h 4 := hT.2.2.2.2.2.2.2 h hh 4 (by decide)
    have hw := w.hw hh
    refine j_iload3 5 dX10_dustAt_4 rfl ?_
    refine j_aload0 6 dX10_dustAt_5 rfl ?_
    refine j_getI 9 dX10_dustAt_6 rfl fl_X10_53 rfl rfl ?_
    refine j_cmp_ge 42 12 dX10_dustAt_9 rfl rfl (fun h9 => absurd h9 (by rw [hT.1, wn.2]; exact nI_ge (by omega) (by omega))) (fun h9 => ?_)
    refine j_aload0 13 dX10_dustAt_12 rfl ?_
    refine j_iload3 14 dX10_dustAt_13 rfl ?_
    refine j_vi1f 17 dX10_dustAt_14 rfl rfl cl_X10_86 rfl rfl (c_isDust_9 m h hh) ?_
    refine j_if_eq_bz 36 20 dX10_dustAt_17 rfl rfl (fun h17 => ?_) (fun h17 => ?_)
    · refine j_iinc3 39 (1) dX10_dustAt_36 rfl rfl rfl rfl ?_
      refine j_goto 4 dX10_dustAt_39 rfl ?_
      first | rw [e2, setF_f (P := fun h => hf d h 4 = s) (n := h) (by show ¬ hf d h 4 = s; rw [← f4]; exact h27)] | rw [e2, setF_t (P := fun h => hf d h 4 = s) (n := h) (by show hf d h 4 = s; rw [← f4]; exact h27)] | rw [e2, setF_f (P := fun h => hf d h 4 = s) (n := h) (by show ¬ hf d h 4 = s; intro q; have := hw.2.2.2.2.2.1 (by show hf d h 3 ≠ 0; rw [← f3]; exact h17); exact hs (q.symm.trans this))]
      exact ih (h + 1) (by omega)
    · refine j_aload0 21 dX10_dustAt_20 rfl ?_
      refine j_getR 24 dX10_dustAt_21 rfl fl_X10_30 rfl rfl ?_
      refine j_iload3 25 dX10_dustAt_24 rfl ?_
      refine j_iald 26 _ rfl hh dX10_dustAt_25 rfl rfl ?_
      refine j_iload1 27 dX10_dustAt_26 rfl ?_
      refine j_cmp_ne 36 30 dX10_dustAt_27 rfl rfl (fun h27 => ?_) (fun h27 => ?_)
      · refine j_iinc3 39 (1) dX10_dustAt_36 rfl rfl rfl rfl ?_
        refine j_goto 4 dX10_dustAt_39 rfl ?_
        first | rw [e2, setF_f (P := fun h => hf d h 4 = s) (n := h) (by show ¬ hf d h 4 = s; rw [← f4]; exact h27)] | rw [e2, setF_t (P := fun h => hf d h 4 = s) (n := h) (by show hf d h 4 = s; rw [← f4]; exact h27)] | rw [e2, setF_f (P := fun h => hf d h 4 = s) (n := h) (by show ¬ hf d h 4 = s; intro q; have := hw.2.2.2.2.2.1 (by show hf d h 3 ≠ 0; rw [← f3]; exact h17); exact hs (q.symm.trans this))]
        exact ih (h + 1) (by omega)
      · refine j_iload2 31 dX10_dustAt_30 rfl ?_
        refine j_iconst 32 (v := 1) dX10_dustAt_31 rfl rfl ?_
        refine j_iload3 33 dX10_dustAt_32 rfl ?_
        refine j_ishl 34 dX10_dustAt_33 rfl ?_
        refine j_ior 35 dX10_dustAt_34 rfl ?_
        refine j_istore2 36 dX10_dustAt_35 rfl rfl rfl ?_
        refine j_iinc3 39 (1) dX10_dustAt_36 rfl rfl rfl rfl ?_
        refine j_goto 4 dX10_dustAt_39 rfl ?_
        first | rw [e2, setF_f (P := fun h => hf d h 4 = s) (n := h) (by show ¬ hf d h 4 = s; rw [← f4]; exact h27)] | rw [e2, setF_t (P := fun h => hf d h 4 = s) (n := h) (by show hf d h 4 = s; rw [← f4]; exact h27)] | rw [e2, setF_f (P := fun h => hf d h 4 = s) (n := h) (by show ¬ hf d h 4 = s; intro q; have := hw.2.2.2.2.2.1 (by show hf d h 3 ≠ 0; rw [← f3]; exact h17); exact hs (q.symm.trans this))]
        exact ih (h + 1) (by omega)
set_option maxRecDepth 100000 in
theorem c_dustAt_9 (m : Mem) (d : Nat → Int32) (w : WF d) (s : Int32) (hs : s ≠ -1) (hT : TR 9 m d) : JM l g 1 mX10_dustAt [rf g 9, .int s] m (RF (some (.int (setF (fun h => hf d h 4 = s) (hn d)))) m) := by
  refine JM_of (ls := [some (rf g 9), some (.int s), none, none]) pn_X10 rfl rfl ?_
  refine j_iconst 1 (v := 0) dX10_dustAt_0 rfl rfl ?_
  refine j_istore2 2 dX10_dustAt_1 rfl rfl rfl ?_
  refine j_iconst 3 (v := 0) dX10_dustAt_2 rfl rfl ?_
  refine j_istore3 4 dX10_dustAt_3 rfl rfl rfl ?_
  exact lp_dustAt_9 d w m s hs hT ⟨rfl, rfl⟩ _ 0 (Nat.zero_add _)
set_option maxRecDepth 100000 in
theorem lp_dustAt_18 {Q : Option Value → Mem → Prop} (d : Nat → Int32) (w : WF d) (m : Mem) (s : Int32) (hs : s ≠ -1) (hT : TR 18 m d) (hq : Q (some (.int (setF (fun h => hf d h 4 = s) (hn d)))) m) : ∀ (k h : Nat), h + k = hn d → J l g 1 mX10_dustAt 4 [some (rf g 18), some (.int s), some (.int (setF (fun h => hf d h 4 = s) h)), some (.int (nI h))] [] m Q := by
  have wn := w.n
  intro k
  induction k with
  | zero =>
    intro h e
    have e : h = hn d := by omega
    subst e
    refine j_iload3 5 dX10_dustAt_4 rfl ?_
    refine j_aload0 6 dX10_dustAt_5 rfl ?_
    refine j_getI 9 dX10_dustAt_6 rfl fl_X10_53 rfl rfl ?_
    refine j_cmp_ge 42 12 dX10_dustAt_9 rfl rfl (fun h9 => ?_) (fun h9 => absurd (by rw [hT.1, wn.2]; exact Int32.le_refl _) h9)
    refine j_iload2 43 dX10_dustAt_42 rfl ?_
    refine j_iret dX10_dustAt_43 rfl ?_
    exact hq
  | succ k ih =>
    intro h e
    have e2 : nI h + 1 = nI (h + 1) := nI_1 h
    have hh : h < 8 := by omega
    have f3 : m 24 h = hf d h 3 := hT.2.2.2.2.2.2.2 h hh 3 (by decide)
    have f4 : m 25 h = hf d h 4 := hT.2.2.2.2.2.2.2 h hh 4 (by decide)
    have hw := w.hw hh
    refine j_iload3 5 dX10_dustAt_4 rfl ?_
    refine j_aload0 6 dX10_dustAt_5 rfl ?_
    refine j_getI 9 dX10_dustAt_6 rfl fl_X10_53 rfl rfl ?_
    refine j_cmp_ge 42 12 dX10_dustAt_9 rfl rfl (fun h9 => absurd h9 (by rw [hT.1, wn.2]; exact nI_ge (by omega) (by omega))) (fun h9 => ?_)
    refine j_aload0 13 dX10_dustAt_12 rfl ?_
    refine j_iload3 14 dX10_dustAt_13 rfl ?_
    refine j_vi1f 17 dX10_dustAt_14 rfl rfl cl_X10_86 rfl rfl (c_isDust_18 m h hh) ?_
    refine j_if_eq_bz 36 20 dX10_dustAt_17 rfl rfl (fun h17 => ?_) (fun h17 => ?_)
    · refine j_iinc3 39 (1) dX10_dustAt_36 rfl rfl rfl rfl ?_
      refine j_goto 4 dX10_dustAt_39 rfl ?_
      first | rw [e2, setF_f (P := fun h => hf d h 4 = s) (n := h) (by show ¬ hf d h 4 = s; rw [← f4]; exact h27)] | rw [e2, setF_t (P := fun h => hf d h 4 = s) (n := h) (by show hf d h 4 = s; rw [← f4]; exact h27)] | rw [e2, setF_f (P := fun h => hf d h 4 = s) (n := h) (by show ¬ hf d h 4 = s; intro q; have := hw.2.2.2.2.2.1 (by show hf d h 3 ≠ 0; rw [← f3]; exact h17); exact hs (q.symm.trans this))]
      exact ih (h + 1) (by omega)
    · refine j_aload0 21 dX10_dustAt_20 rfl ?_
      refine j_getR 24 dX10_dustAt_21 rfl fl_X10_30 rfl rfl ?_
      refine j_iload3 25 dX10_dustAt_24 rfl ?_
      refine j_iald 26 _ rfl hh dX10_dustAt_25 rfl rfl ?_
      refine j_iload1 27 dX10_dustAt_26 rfl ?_
      refine j_cmp_ne 36 30 dX10_dustAt_27 rfl rfl (fun h27 => ?_) (fun h27 => ?_)
      · refine j_iinc3 39 (1) dX10_dustAt_36 rfl rfl rfl rfl ?_
        refine j_goto 4 dX10_dustAt_39 rfl ?_
        first | rw [e2, setF_f (P := fun h => hf d h 4 = s) (n := h) (by show ¬ hf d h 4 = s; rw [← f4]; exact h27)] | rw [e2, setF_t (P := fun h => hf d h 4 = s) (n := h) (by show hf d h 4 = s; rw [← f4]; exact h27)] | rw [e2, setF_f (P := fun h => hf d h 4 = s) (n := h) (by show ¬ hf d h 4 = s; intro q; have := hw.2.2.2.2.2.1 (by show hf d h 3 ≠ 0; rw [← f3]; exact h17); exact hs (q.symm.trans this))]
        exact ih (h + 1) (by omega)
      · refine j_iload2 31 dX10_dustAt_30 rfl ?_
        refine j_iconst 32 (v := 1) dX10_dustAt_31 rfl rfl ?_
        refine j_iload3 33 dX10_dustAt_32 rfl ?_
        refine j_ishl 34 dX10_dustAt_33 rfl ?_
        refine j_ior 35 dX10_dustAt_34 rfl ?_
        refine j_istore2 36 dX10_dustAt_35 rfl rfl rfl ?_
        refine j_iinc3 39 (1) dX10_dustAt_36 rfl rfl rfl rfl ?_
        refine j_goto 4 dX10_dustAt_39 rfl ?_
        first | rw [e2, setF_f (P := fun h => hf d h 4 = s) (n := h) (by show ¬ hf d h 4 = s; rw [← f4]; exact h27)] | rw [e2, setF_t (P := fun h => hf d h 4 = s) (n := h) (by show hf d h 4 = s; rw [← f4]; exact h27)] | rw [e2, setF_f (P := fun h => hf d h 4 = s) (n := h) (by show ¬ hf d h 4 = s; intro q; have := hw.2.2.2.2.2.1 (by show hf d h 3 ≠ 0; rw [← f3]; exact h17); exact hs (q.symm.trans this))]
        exact ih (h + 1) (by omega)
set_option maxRecDepth 100000 in
theorem c_dustAt_18 (m : Mem) (d : Nat → Int32) (w : WF d) (s : Int32) (hs : s ≠ -1) (hT : TR 18 m d) : JM l g 1 mX10_dustAt [rf g 18, .int s] m (RF (some (.int (setF (fun h => hf d h 4 = s) (hn d)))) m) := by
  refine JM_of (ls := [some (rf g 18), some (.int s), none, none]) pn_X10 rfl rfl ?_
  refine j_iconst 1 (v := 0) dX10_dustAt_0 rfl rfl ?_
  refine j_istore2 2 dX10_dustAt_1 rfl rfl rfl ?_
  refine j_iconst 3 (v := 0) dX10_dustAt_2 rfl rfl ?_
  refine j_istore3 4 dX10_dustAt_3 rfl rfl rfl ?_
  exact lp_dustAt_18 d w m s hs hT ⟨rfl, rfl⟩ _ 0 (Nat.zero_add _)
set_option maxRecDepth 100000 in
theorem lp_lotsOf {Q : Option Value → Mem → Prop} (d : Nat → Int32) (w : WF d) (m : Mem) (s : Int32) (hT : TR 9 m d) (hq : Q (some (.int (setF (fun h => hf d h 2 = s) (hn d)))) m) : ∀ (k h : Nat), h + k = hn d → J l g 1 mX10_lotsOf 4 [some (rf g 9), some (.int s), some (.int (setF (fun h => hf d h 2 = s) h)), some (.int (nI h))] [] m Q := by
  have wn := w.n
  intro k
  induction k with
  | zero =>
    intro h e
    have e : h = hn d := by omega
    subst e
    refine j_iload3 5 dX10_lotsOf_4 rfl ?_
    refine j_aload0 6 dX10_lotsOf_5 rfl ?_
    refine j_getI 9 dX10_lotsOf_6 rfl fl_X10_53 rfl rfl ?_
    refine j_cmp_ge 34 12 dX10_lotsOf_9 rfl rfl (fun h9 => ?_) (fun h9 => absurd (by rw [hT.1, wn.2]; exact Int32.le_refl _) h9)
    refine j_iload2 35 dX10_lotsOf_34 rfl ?_
    refine j_iret dX10_lotsOf_35 rfl ?_
    exact hq
  | succ k ih =>
    intro h e
    have e2 : nI h + 1 = nI (h + 1) := nI_1 h
    have hh : h < 8 := by omega
    have f2 : m 14 h = hf d h 2 := hT.2.2.2.2.2.2.2 h hh 2 (by decide)
    refine j_iload3 5 dX10_lotsOf_4 rfl ?_
    refine j_aload0 6 dX10_lotsOf_5 rfl ?_
    refine j_getI 9 dX10_lotsOf_6 rfl fl_X10_53 rfl rfl ?_
    refine j_cmp_ge 34 12 dX10_lotsOf_9 rfl rfl (fun h9 => absurd h9 (by rw [hT.1, wn.2]; exact nI_ge (by omega) (by omega))) (fun h9 => ?_)
    refine j_aload0 13 dX10_lotsOf_12 rfl ?_
    refine j_getR 16 dX10_lotsOf_13 rfl fl_X10_24 rfl rfl ?_
    refine j_iload3 17 dX10_lotsOf_16 rfl ?_
    refine j_iald 18 _ rfl hh dX10_lotsOf_17 rfl rfl ?_
    refine j_iload1 19 dX10_lotsOf_18 rfl ?_
    refine j_cmp_ne 28 22 dX10_lotsOf_19 rfl rfl (fun h19 => ?_) (fun h19 => ?_)
    · refine j_iinc3 31 (1) dX10_lotsOf_28 rfl rfl rfl rfl ?_
      refine j_goto 4 dX10_lotsOf_31 rfl ?_
      first | rw [e2, setF_f (P := fun h => hf d h 2 = s) (n := h) (by show ¬ hf d h 2 = s; rw [← f2]; exact h19)] | rw [e2, setF_t (P := fun h => hf d h 2 = s) (n := h) (by show hf d h 2 = s; rw [← f2]; exact h19)]
      exact ih (h + 1) (by omega)
    · refine j_iload2 23 dX10_lotsOf_22 rfl ?_
      refine j_iconst 24 (v := 1) dX10_lotsOf_23 rfl rfl ?_
      refine j_iload3 25 dX10_lotsOf_24 rfl ?_
      refine j_ishl 26 dX10_lotsOf_25 rfl ?_
      refine j_ior 27 dX10_lotsOf_26 rfl ?_
      refine j_istore2 28 dX10_lotsOf_27 rfl rfl rfl ?_
      refine j_iinc3 31 (1) dX10_lotsOf_28 rfl rfl rfl rfl ?_
      refine j_goto 4 dX10_lotsOf_31 rfl ?_
      first | rw [e2, setF_f (P := fun h => hf d h 2 = s) (n := h) (by show ¬ hf d h 2 = s; rw [← f2]; exact h19)] | rw [e2, setF_t (P := fun h => hf d h 2 = s) (n := h) (by show hf d h 2 = s; rw [← f2]; exact h19)]
      exact ih (h + 1) (by omega)
set_option maxRecDepth 100000 in
theorem c_lotsOf (m : Mem) (d : Nat → Int32) (w : WF d) (s : Int32) (hT : TR 9 m d) : JM l g 1 mX10_lotsOf [rf g 9, .int s] m (RF (some (.int (setF (fun h => hf d h 2 = s) (hn d)))) m) := by
  refine JM_of (ls := [some (rf g 9), some (.int s), none, none]) pn_X10 rfl rfl ?_
  refine j_iconst 1 (v := 0) dX10_lotsOf_0 rfl rfl ?_
  refine j_istore2 2 dX10_lotsOf_1 rfl rfl rfl ?_
  refine j_iconst 3 (v := 0) dX10_lotsOf_2 rfl rfl ?_
  refine j_istore3 4 dX10_lotsOf_3 rfl rfl rfl ?_
  exact lp_lotsOf d w m s hT ⟨rfl, rfl⟩ _ 0 (Nat.zero_add _)
set_option maxRecDepth 100000 in
theorem lp_lying {Q : Option Value → Mem → Prop} (d : Nat → Int32) (w : WF d) (m : Mem) (s : Int32) (hm : m 69 = d) (hq : Q (some (.int (setF (fun h => hf d h 4 = s) (hn d)))) m) : ∀ (k h : Nat), h + k = hn d → J l g 1 mX12_lying 4 [some (rf g 68), some (.int s), some (.int (setF (fun h => hf d h 4 = s) h)), some (.int (nI h))] [] m Q := by
  have wn := w.n
  intro k
  induction k with
  | zero =>
    intro h e
    have e : h = hn d := by omega
    subst e
    refine j_iload3 5 dX12_lying_4 rfl ?_
    refine j_aload0 6 dX12_lying_5 rfl ?_
    refine j_getR 9 dX12_lying_6 rfl fl_X12_7 rfl rfl ?_
    refine j_iconst 10 (v := 0) dX12_lying_9 rfl rfl ?_
    refine j_iald 11 0 rfl (by first | assumption | decide | omega) dX12_lying_10 rfl rfl ?_
    refine j_cmp_ge 40 14 dX12_lying_11 rfl rfl (fun h11 => ?_) (fun h11 => absurd (by rw [hm, wn.2]; exact Int32.le_refl _) h11)
    refine j_iload2 41 dX12_lying_40 rfl ?_
    refine j_iret dX12_lying_41 rfl ?_
    exact hq
  | succ k ih =>
    intro h e
    have e2 : nI h + 1 = nI (h + 1) := nI_1 h
    have hh : h < 8 := by omega
    refine j_iload3 5 dX12_lying_4 rfl ?_
    refine j_aload0 6 dX12_lying_5 rfl ?_
    refine j_getR 9 dX12_lying_6 rfl fl_X12_7 rfl rfl ?_
    refine j_iconst 10 (v := 0) dX12_lying_9 rfl rfl ?_
    refine j_iald 11 0 rfl (by first | assumption | decide | omega) dX12_lying_10 rfl rfl ?_
    refine j_cmp_ge 40 14 dX12_lying_11 rfl rfl (fun h11 => absurd h11 (by rw [hm, wn.2]; exact nI_ge (by omega) (by omega))) (fun h11 => ?_)
    refine j_iload2 15 dX12_lying_14 rfl ?_
    refine j_aload0 16 dX12_lying_15 rfl ?_
    refine j_iload3 17 dX12_lying_16 rfl ?_
    refine j_iconst 18 (v := 4) dX12_lying_17 rfl rfl ?_
    refine j_vi2f 21 dX12_lying_18 rfl rfl cl_X12_146 rfl rfl (c_of m h 4 hh (by decide)) ?_
    refine j_iload1 22 dX12_lying_21 rfl ?_
    refine j_cmp_ne 31 25 dX12_lying_22 rfl rfl (fun h22 => ?_) (fun h22 => ?_)
    · refine j_iconst 32 (v := 0) dX12_lying_31 rfl rfl ?_
      refine j_ior 33 dX12_lying_32 rfl ?_
      refine j_istore2 34 dX12_lying_33 rfl rfl rfl ?_
      refine j_iinc3 37 (1) dX12_lying_34 rfl rfl rfl rfl ?_
      refine j_goto 4 dX12_lying_37 rfl ?_
      first | rw [e2, setF_f0 (P := fun h => hf d h 4 = s) (n := h) (by show ¬ hf d h 4 = s; rw [← hm]; exact h22)] | rw [e2, setF_t (P := fun h => hf d h 4 = s) (n := h) (by show hf d h 4 = s; rw [← hm]; exact h22)]
      exact ih (h + 1) (by omega)
    · refine j_iconst 26 (v := 1) dX12_lying_25 rfl rfl ?_
      refine j_iload3 27 dX12_lying_26 rfl ?_
      refine j_ishl 28 dX12_lying_27 rfl ?_
      refine j_goto 32 dX12_lying_28 rfl ?_
      refine j_ior 33 dX12_lying_32 rfl ?_
      refine j_istore2 34 dX12_lying_33 rfl rfl rfl ?_
      refine j_iinc3 37 (1) dX12_lying_34 rfl rfl rfl rfl ?_
      refine j_goto 4 dX12_lying_37 rfl ?_
      first | rw [e2, setF_f0 (P := fun h => hf d h 4 = s) (n := h) (by show ¬ hf d h 4 = s; rw [← hm]; exact h22)] | rw [e2, setF_t (P := fun h => hf d h 4 = s) (n := h) (by show hf d h 4 = s; rw [← hm]; exact h22)]
      exact ih (h + 1) (by omega)
set_option maxRecDepth 100000 in
theorem c_lying (m : Mem) (s : Int32) (w : WF (m 69)) : JM l g 1 mX12_lying [rf g 68, .int s] m (RF (some (.int (setF (fun h => hf (m 69) h 4 = s) (hn (m 69))))) m) := by
  refine JM_of (ls := [some (rf g 68), some (.int s), none, none]) pn_X12 rfl rfl ?_
  refine j_iconst 1 (v := 0) dX12_lying_0 rfl rfl ?_
  refine j_istore2 2 dX12_lying_1 rfl rfl rfl ?_
  refine j_iconst 3 (v := 0) dX12_lying_2 rfl rfl ?_
  refine j_istore3 4 dX12_lying_3 rfl rfl rfl ?_
  exact lp_lying (m 69) w m s rfl ⟨rfl, rfl⟩ _ 0 (Nat.zero_add _)
-- ofSill
def cOf (s w : Int32) : Prop := (0 ≤ s ∧ s ≤ 15) ∧ (0 ≤ w ∧ w ≤ nI 3)
set_option maxRecDepth 100000 in
theorem e_ofSill (m : Mem) (s w : Int32) (c : ¬ cOf s w) : JM l g 2 mX11_ofSill [rf g 0, .int s, .int w] m (RF (some (.int (-1000000001))) (errC 1 m)) := by
  refine JM_of (ls := [some (rf g 0), some (.int s), some (.int w)]) pn_X11 rfl rfl ?_
  refine j_iload1 1 dX11_ofSill_0 rfl ?_
  refine j_st1f 4 dX11_ofSill_1 rfl rfl cl_X11_77 rfl (c_isSill m s) ?_
  refine j_if_ne_bz 14 7 dX11_ofSill_4 rfl rfl (fun h4 => ?_) (fun h4 => ?_)
  · refine j_iload2 15 dX11_ofSill_14 rfl ?_
    refine j_tabOut 82 dX11_ofSill_15 (outN (by decide) (fun q => c ⟨h4, q⟩)) rfl ?_
    refine j_aload0 83 dX11_ofSill_82 rfl ?_
    refine j_ldc 85 dX11_ofSill_83 rfl kc_X11_81 ?_
    refine j_vi1f 88 dX11_ofSill_85 rfl rfl cl_X11_82 rfl rfl (c_err1 m) ?_
    refine j_iret dX11_ofSill_88 rfl ?_
    exact ⟨rfl, rfl⟩
  · refine j_aload0 8 dX11_ofSill_7 rfl ?_
    refine j_ldc 10 dX11_ofSill_8 rfl kc_X11_81 ?_
    refine j_vi1f 13 dX11_ofSill_10 rfl rfl cl_X11_82 rfl rfl (c_err1 m) ?_
    refine j_iret dX11_ofSill_13 rfl ?_
    exact ⟨rfl, rfl⟩
set_option maxRecDepth 100000 in
theorem f_ofSill (m : Mem) (s w : Int32) (c : ¬ cOf s w) : JM l g 2 mX12_ofSill [rf g 68, .int s, .int w] m (RF (some (.int (-1000000001))) (errM 1 m)) := by
  refine JM_of (ls := [some (rf g 68), some (.int s), some (.int w), none, none]) pn_X12 rfl rfl ?_
  refine j_iload1 1 dX12_ofSill_0 rfl ?_
  refine j_st1f 4 dX12_ofSill_1 rfl rfl cl_X12_174 rfl (c_misSill m s) ?_
  refine j_if_eq_bz 19 7 dX12_ofSill_4 rfl rfl (fun h4 => ?_) (fun h4 => ?_)
  · refine j_aload0 20 dX12_ofSill_19 rfl ?_
    refine j_iconst 21 (v := 1) dX12_ofSill_20 rfl rfl ?_
    refine j_vi1f 24 dX12_ofSill_21 rfl rfl cl_X12_126 rfl rfl (c_finds1 m) ?_
    refine j_iret dX12_ofSill_24 rfl ?_
    exact ⟨rfl, rfl⟩
  · refine j_iload2 8 dX12_ofSill_7 rfl ?_
    refine j_i2l 9 dX12_ofSill_8 rfl ?_
    refine j_lconst 10 (v := 0) dX12_ofSill_9 rfl rfl ?_
    refine j_ldc2 13 dX12_ofSill_10 rfl kl_X12_182 ?_
    refine j_st3f 16 dX12_ofSill_13 rfl rfl cl_X12_47 rfl (c_in m w 0 3) ?_
    refine j_if_ne_bz 25 19 dX12_ofSill_16 rfl rfl (fun h16 => ?_) (fun h16 => ?_)
    · exact absurd (show cOf s w from ⟨h4, h16⟩) c
    · refine j_aload0 20 dX12_ofSill_19 rfl ?_
      refine j_iconst 21 (v := 1) dX12_ofSill_20 rfl rfl ?_
      refine j_vi1f 24 dX12_ofSill_21 rfl rfl cl_X12_126 rfl rfl (c_finds1 m) ?_
      refine j_iret dX12_ofSill_24 rfl ?_
      exact ⟨rfl, rfl⟩
set_option maxRecDepth 100000 in
theorem lp_mlots {Q : Option Value → Mem → Prop} (d : Nat → Int32) (w : WF d) (m : Mem) (s : Int32) (hm : m 69 = d) (hq : Q (some (.int (setF (fun h => hf d h 2 = s) (hn d)))) m) : ∀ (k h : Nat), h + k = hn d → J l g 2 mX12_ofSill 63 [some (rf g 68), some (.int s), some (.int 3), some (.int (setF (fun h => hf d h 2 = s) h)), some (.int (nI h))] [] m Q := by
  have wn := w.n
  intro k
  induction k with
  | zero =>
    intro h e
    have e : h = hn d := by omega
    subst e
    refine j_iload4 65 dX12_ofSill_63 rfl ?_
    refine j_aload0 66 dX12_ofSill_65 rfl ?_
    refine j_getR 69 dX12_ofSill_66 rfl fl_X12_7 rfl rfl ?_
    refine j_iconst 70 (v := 0) dX12_ofSill_69 rfl rfl ?_
    refine j_iald 71 0 rfl (by first | assumption | decide | omega) dX12_ofSill_70 rfl rfl ?_
    refine j_cmp_ge 102 74 dX12_ofSill_71 rfl rfl (fun h71 => ?_) (fun h71 => absurd (by rw [hm, wn.2]; exact Int32.le_refl _) h71)
    refine j_iload3 103 dX12_ofSill_102 rfl ?_
    refine j_iret dX12_ofSill_103 rfl ?_
    exact hq
  | succ k ih =>
    intro h e
    have e2 : nI h + 1 = nI (h + 1) := nI_1 h
    have hh : h < 8 := by omega
    refine j_iload4 65 dX12_ofSill_63 rfl ?_
    refine j_aload0 66 dX12_ofSill_65 rfl ?_
    refine j_getR 69 dX12_ofSill_66 rfl fl_X12_7 rfl rfl ?_
    refine j_iconst 70 (v := 0) dX12_ofSill_69 rfl rfl ?_
    refine j_iald 71 0 rfl (by first | assumption | decide | omega) dX12_ofSill_70 rfl rfl ?_
    refine j_cmp_ge 102 74 dX12_ofSill_71 rfl rfl (fun h71 => absurd h71 (by rw [hm, wn.2]; exact nI_ge (by omega) (by omega))) (fun h71 => ?_)
    refine j_iload3 75 dX12_ofSill_74 rfl ?_
    refine j_aload0 76 dX12_ofSill_75 rfl ?_
    refine j_iload4 78 dX12_ofSill_76 rfl ?_
    refine j_iconst 79 (v := 2) dX12_ofSill_78 rfl rfl ?_
    refine j_vi2f 82 dX12_ofSill_79 rfl rfl cl_X12_146 rfl rfl (c_of m h 2 hh (by decide)) ?_
    refine j_iload1 83 dX12_ofSill_82 rfl ?_
    refine j_cmp_ne 93 86 dX12_ofSill_83 rfl rfl (fun h83 => ?_) (fun h83 => ?_)
    · refine j_iconst 94 (v := 0) dX12_ofSill_93 rfl rfl ?_
      refine j_ior 95 dX12_ofSill_94 rfl ?_
      refine j_istore3 96 dX12_ofSill_95 rfl rfl rfl ?_
      refine j_iinc4 99 (1) dX12_ofSill_96 rfl rfl rfl rfl ?_
      refine j_goto 63 dX12_ofSill_99 rfl ?_
      first | rw [e2, setF_f0 (P := fun h => hf d h 2 = s) (n := h) (by show ¬ hf d h 2 = s; rw [← hm]; exact h83)] | rw [e2, setF_t (P := fun h => hf d h 2 = s) (n := h) (by show hf d h 2 = s; rw [← hm]; exact h83)]
      exact ih (h + 1) (by omega)
    · refine j_iconst 87 (v := 1) dX12_ofSill_86 rfl rfl ?_
      refine j_iload4 89 dX12_ofSill_87 rfl ?_
      refine j_ishl 90 dX12_ofSill_89 rfl ?_
      refine j_goto 94 dX12_ofSill_90 rfl ?_
      refine j_ior 95 dX12_ofSill_94 rfl ?_
      refine j_istore3 96 dX12_ofSill_95 rfl rfl rfl ?_
      refine j_iinc4 99 (1) dX12_ofSill_96 rfl rfl rfl rfl ?_
      refine j_goto 63 dX12_ofSill_99 rfl ?_
      first | rw [e2, setF_f0 (P := fun h => hf d h 2 = s) (n := h) (by show ¬ hf d h 2 = s; rw [← hm]; exact h83)] | rw [e2, setF_t (P := fun h => hf d h 2 = s) (n := h) (by show hf d h 2 = s; rw [← hm]; exact h83)]
      exact ih (h + 1) (by omega)
set_option maxRecDepth 100000 in
theorem o_ofSill0 (m : Mem) (d : Nat → Int32) (wf : WF d) (hT : TR 9 m d) (s : Nat) (hs : s < 16) : JM l g 2 mX11_ofSill [rf g 0, .int (nI s), .int 0] m (RF (some (.int (m 10 s))) m) := by
  refine JM_of (ls := [some (rf g 0), some (.int (nI s)), some (.int 0)]) pn_X11 rfl rfl ?_
  refine j_iload1 1 dX11_ofSill_0 rfl ?_
  refine j_st1f 4 dX11_ofSill_1 rfl rfl cl_X11_77 rfl (c_isSill m _) ?_
  refine j_if_ne_bz 14 7 dX11_ofSill_4 rfl rfl (fun h4 => ?_) (fun h4 => absurd ((rngN 15 (by decide)).mpr ⟨s, by omega, rfl⟩) h4)
  refine j_iload2 15 dX11_ofSill_14 rfl ?_
  refine j_tabIn 44 dX11_ofSill_15 (by decide) (by decide) rfl rfl ?_
  refine j_aload0 45 dX11_ofSill_44 rfl ?_
  refine j_getR 48 dX11_ofSill_45 rfl fl_X11_35 rfl rfl ?_
  refine j_getR 51 dX11_ofSill_48 rfl fl_X11_90 rfl rfl ?_
  refine j_iload1 52 dX11_ofSill_51 rfl ?_
  refine j_iald 53 _ rfl hs dX11_ofSill_52 rfl rfl ?_
  refine j_iret dX11_ofSill_53 rfl ?_
  exact ⟨rfl, rfl⟩
set_option maxRecDepth 100000 in
theorem p_ofSill0 (m : Mem) (wf : WF (m 69)) (s : Nat) (hs : s < 16) : JM l g 2 mX12_ofSill [rf g 68, .int (nI s), .int 0] m (RF (some (.int (m 69 (8 + s)))) m) := by
  refine JM_of (ls := [some (rf g 68), some (.int (nI s)), some (.int 0), none, none]) pn_X12 rfl rfl ?_
  refine j_iload1 1 dX12_ofSill_0 rfl ?_
  refine j_st1f 4 dX12_ofSill_1 rfl rfl cl_X12_174 rfl (c_misSill m _) ?_
  refine j_if_eq_bz 19 7 dX12_ofSill_4 rfl rfl (fun h4 => absurd ((rngN 15 (by decide)).mpr ⟨s, by omega, rfl⟩) h4) (fun h4 => ?_)
  refine j_iload2 8 dX12_ofSill_7 rfl ?_
  refine j_i2l 9 dX12_ofSill_8 rfl ?_
  refine j_lconst 10 (v := 0) dX12_ofSill_9 rfl rfl ?_
  refine j_ldc2 13 dX12_ofSill_10 rfl kl_X12_182 ?_
  refine j_st3f 16 dX12_ofSill_13 rfl rfl cl_X12_47 rfl (c_in m _ 0 3) ?_
  refine j_if_ne_bz 25 19 dX12_ofSill_16 rfl rfl (fun h16 => ?_) (fun h16 => absurd (by decide) h16)
  refine j_iload2 26 dX12_ofSill_25 rfl ?_
  refine j_iconst 27 (v := 3) dX12_ofSill_26 rfl rfl ?_
  refine j_cmp_ge 58 30 dX12_ofSill_27 rfl rfl (fun h27 => absurd h27 (by decide)) (fun h27 => ?_)
  refine j_iload2 31 dX12_ofSill_30 rfl ?_
  refine j_iconst 32 (v := 2) dX12_ofSill_31 rfl rfl ?_
  refine j_cmp_ge 52 35 dX12_ofSill_32 rfl rfl (fun h32 => absurd h32 (by decide)) (fun h32 => ?_)
  refine j_aload0 36 dX12_ofSill_35 rfl ?_
  refine j_getR 39 dX12_ofSill_36 rfl fl_X12_7 rfl rfl ?_
  refine j_bipush 41 (v := 8) dX12_ofSill_39 rfl rfl ?_
  refine j_bipush 43 (v := 16) dX12_ofSill_41 rfl rfl ?_
  refine j_iload2 44 dX12_ofSill_43 rfl ?_
  refine j_imul 45 dX12_ofSill_44 rfl ?_
  refine j_iadd 46 dX12_ofSill_45 rfl ?_
  refine j_top (z := nI 8) (by decide) ?_
  refine j_iload1 47 dX12_ofSill_46 rfl ?_
  refine j_iaddN 48 dX12_ofSill_47 rfl ?_
  refine j_iald 49 _ rfl (show 8 + s < 260 by omega) dX12_ofSill_48 rfl rfl ?_
  refine j_goto 57 dX12_ofSill_49 rfl ?_
  refine j_iret dX12_ofSill_57 rfl ?_
  exact ⟨rfl, rfl⟩
set_option maxRecDepth 100000 in
theorem o_ofSill1 (m : Mem) (d : Nat → Int32) (wf : WF d) (hT : TR 9 m d) (s : Nat) (hs : s < 16) : JM l g 2 mX11_ofSill [rf g 0, .int (nI s), .int 1] m (RF (some (.int (m 11 s))) m) := by
  refine JM_of (ls := [some (rf g 0), some (.int (nI s)), some (.int 1)]) pn_X11 rfl rfl ?_
  refine j_iload1 1 dX11_ofSill_0 rfl ?_
  refine j_st1f 4 dX11_ofSill_1 rfl rfl cl_X11_77 rfl (c_isSill m _) ?_
  refine j_if_ne_bz 14 7 dX11_ofSill_4 rfl rfl (fun h4 => ?_) (fun h4 => absurd ((rngN 15 (by decide)).mpr ⟨s, by omega, rfl⟩) h4)
  refine j_iload2 15 dX11_ofSill_14 rfl ?_
  refine j_tabIn 54 dX11_ofSill_15 (by decide) (by decide) rfl rfl ?_
  refine j_aload0 55 dX11_ofSill_54 rfl ?_
  refine j_getR 58 dX11_ofSill_55 rfl fl_X11_35 rfl rfl ?_
  refine j_getR 61 dX11_ofSill_58 rfl fl_X11_93 rfl rfl ?_
  refine j_iload1 62 dX11_ofSill_61 rfl ?_
  refine j_iald 63 _ rfl hs dX11_ofSill_62 rfl rfl ?_
  refine j_iret dX11_ofSill_63 rfl ?_
  exact ⟨rfl, rfl⟩
set_option maxRecDepth 100000 in
theorem p_ofSill1 (m : Mem) (wf : WF (m 69)) (s : Nat) (hs : s < 16) : JM l g 2 mX12_ofSill [rf g 68, .int (nI s), .int 1] m (RF (some (.int (m 69 (24 + s)))) m) := by
  refine JM_of (ls := [some (rf g 68), some (.int (nI s)), some (.int 1), none, none]) pn_X12 rfl rfl ?_
  refine j_iload1 1 dX12_ofSill_0 rfl ?_
  refine j_st1f 4 dX12_ofSill_1 rfl rfl cl_X12_174 rfl (c_misSill m _) ?_
  refine j_if_eq_bz 19 7 dX12_ofSill_4 rfl rfl (fun h4 => absurd ((rngN 15 (by decide)).mpr ⟨s, by omega, rfl⟩) h4) (fun h4 => ?_)
  refine j_iload2 8 dX12_ofSill_7 rfl ?_
  refine j_i2l 9 dX12_ofSill_8 rfl ?_
  refine j_lconst 10 (v := 0) dX12_ofSill_9 rfl rfl ?_
  refine j_ldc2 13 dX12_ofSill_10 rfl kl_X12_182 ?_
  refine j_st3f 16 dX12_ofSill_13 rfl rfl cl_X12_47 rfl (c_in m _ 0 3) ?_
  refine j_if_ne_bz 25 19 dX12_ofSill_16 rfl rfl (fun h16 => ?_) (fun h16 => absurd (by decide) h16)
  refine j_iload2 26 dX12_ofSill_25 rfl ?_
  refine j_iconst 27 (v := 3) dX12_ofSill_26 rfl rfl ?_
  refine j_cmp_ge 58 30 dX12_ofSill_27 rfl rfl (fun h27 => absurd h27 (by decide)) (fun h27 => ?_)
  refine j_iload2 31 dX12_ofSill_30 rfl ?_
  refine j_iconst 32 (v := 2) dX12_ofSill_31 rfl rfl ?_
  refine j_cmp_ge 52 35 dX12_ofSill_32 rfl rfl (fun h32 => absurd h32 (by decide)) (fun h32 => ?_)
  refine j_aload0 36 dX12_ofSill_35 rfl ?_
  refine j_getR 39 dX12_ofSill_36 rfl fl_X12_7 rfl rfl ?_
  refine j_bipush 41 (v := 8) dX12_ofSill_39 rfl rfl ?_
  refine j_bipush 43 (v := 16) dX12_ofSill_41 rfl rfl ?_
  refine j_iload2 44 dX12_ofSill_43 rfl ?_
  refine j_imul 45 dX12_ofSill_44 rfl ?_
  refine j_iadd 46 dX12_ofSill_45 rfl ?_
  refine j_top (z := nI 24) (by decide) ?_
  refine j_iload1 47 dX12_ofSill_46 rfl ?_
  refine j_iaddN 48 dX12_ofSill_47 rfl ?_
  refine j_iald 49 _ rfl (show 24 + s < 260 by omega) dX12_ofSill_48 rfl rfl ?_
  refine j_goto 57 dX12_ofSill_49 rfl ?_
  refine j_iret dX12_ofSill_57 rfl ?_
  exact ⟨rfl, rfl⟩
set_option maxRecDepth 100000 in
theorem o_ofSill2 (m : Mem) (d : Nat → Int32) (wf : WF d) (hT : TR 9 m d) (s : Nat) (hs : s < 16) : JM l g 2 mX11_ofSill [rf g 0, .int (nI s), .int 2] m (RF (some (.int (setF (fun h => hf d h 4 = nI s) (hn d)))) m) := by
  refine JM_of (ls := [some (rf g 0), some (.int (nI s)), some (.int 2)]) pn_X11 rfl rfl ?_
  refine j_iload1 1 dX11_ofSill_0 rfl ?_
  refine j_st1f 4 dX11_ofSill_1 rfl rfl cl_X11_77 rfl (c_isSill m _) ?_
  refine j_if_ne_bz 14 7 dX11_ofSill_4 rfl rfl (fun h4 => ?_) (fun h4 => absurd ((rngN 15 (by decide)).mpr ⟨s, by omega, rfl⟩) h4)
  refine j_iload2 15 dX11_ofSill_14 rfl ?_
  refine j_tabIn 64 dX11_ofSill_15 (by decide) (by decide) rfl rfl ?_
  refine j_aload0 65 dX11_ofSill_64 rfl ?_
  refine j_getR 68 dX11_ofSill_65 rfl fl_X11_35 rfl rfl ?_
  refine j_iload1 69 dX11_ofSill_68 rfl ?_
  refine j_vi1f 72 dX11_ofSill_69 rfl rfl cl_X11_96 rfl rfl (c_dustAt_9 m d wf _ (nb_m1 ⟨s, hs, rfl⟩ (by decide)) hT) ?_
  refine j_iret dX11_ofSill_72 rfl ?_
  exact ⟨rfl, rfl⟩
set_option maxRecDepth 100000 in
theorem p_ofSill2 (m : Mem) (wf : WF (m 69)) (s : Nat) (hs : s < 16) : JM l g 2 mX12_ofSill [rf g 68, .int (nI s), .int 2] m (RF (some (.int (setF (fun h => hf (m 69) h 4 = nI s) (hn (m 69))))) m) := by
  refine JM_of (ls := [some (rf g 68), some (.int (nI s)), some (.int 2), none, none]) pn_X12 rfl rfl ?_
  refine j_iload1 1 dX12_ofSill_0 rfl ?_
  refine j_st1f 4 dX12_ofSill_1 rfl rfl cl_X12_174 rfl (c_misSill m _) ?_
  refine j_if_eq_bz 19 7 dX12_ofSill_4 rfl rfl (fun h4 => absurd ((rngN 15 (by decide)).mpr ⟨s, by omega, rfl⟩) h4) (fun h4 => ?_)
  refine j_iload2 8 dX12_ofSill_7 rfl ?_
  refine j_i2l 9 dX12_ofSill_8 rfl ?_
  refine j_lconst 10 (v := 0) dX12_ofSill_9 rfl rfl ?_
  refine j_ldc2 13 dX12_ofSill_10 rfl kl_X12_182 ?_
  refine j_st3f 16 dX12_ofSill_13 rfl rfl cl_X12_47 rfl (c_in m _ 0 3) ?_
  refine j_if_ne_bz 25 19 dX12_ofSill_16 rfl rfl (fun h16 => ?_) (fun h16 => absurd (by decide) h16)
  refine j_iload2 26 dX12_ofSill_25 rfl ?_
  refine j_iconst 27 (v := 3) dX12_ofSill_26 rfl rfl ?_
  refine j_cmp_ge 58 30 dX12_ofSill_27 rfl rfl (fun h27 => absurd h27 (by decide)) (fun h27 => ?_)
  refine j_iload2 31 dX12_ofSill_30 rfl ?_
  refine j_iconst 32 (v := 2) dX12_ofSill_31 rfl rfl ?_
  refine j_cmp_ge 52 35 dX12_ofSill_32 rfl rfl (fun h32 => ?_) (fun h32 => absurd (by decide) h32)
  refine j_aload0 53 dX12_ofSill_52 rfl ?_
  refine j_iload1 54 dX12_ofSill_53 rfl ?_
  refine j_vi1f 57 dX12_ofSill_54 rfl rfl cl_X12_184 rfl rfl (c_lying m _ wf) ?_
  refine j_iret dX12_ofSill_57 rfl ?_
  exact ⟨rfl, rfl⟩
set_option maxRecDepth 100000 in
theorem o_ofSill3 (m : Mem) (d : Nat → Int32) (wf : WF d) (hT : TR 9 m d) (s : Nat) (hs : s < 16) : JM l g 2 mX11_ofSill [rf g 0, .int (nI s), .int 3] m (RF (some (.int (setF (fun h => hf d h 2 = nI s) (hn d)))) m) := by
  refine JM_of (ls := [some (rf g 0), some (.int (nI s)), some (.int 3)]) pn_X11 rfl rfl ?_
  refine j_iload1 1 dX11_ofSill_0 rfl ?_
  refine j_st1f 4 dX11_ofSill_1 rfl rfl cl_X11_77 rfl (c_isSill m _) ?_
  refine j_if_ne_bz 14 7 dX11_ofSill_4 rfl rfl (fun h4 => ?_) (fun h4 => absurd ((rngN 15 (by decide)).mpr ⟨s, by omega, rfl⟩) h4)
  refine j_iload2 15 dX11_ofSill_14 rfl ?_
  refine j_tabIn 73 dX11_ofSill_15 (by decide) (by decide) rfl rfl ?_
  refine j_aload0 74 dX11_ofSill_73 rfl ?_
  refine j_getR 77 dX11_ofSill_74 rfl fl_X11_35 rfl rfl ?_
  refine j_iload1 78 dX11_ofSill_77 rfl ?_
  refine j_vi1f 81 dX11_ofSill_78 rfl rfl cl_X11_99 rfl rfl (c_lotsOf m d wf _ hT) ?_
  refine j_iret dX11_ofSill_81 rfl ?_
  exact ⟨rfl, rfl⟩
set_option maxRecDepth 100000 in
theorem p_ofSill3 (m : Mem) (wf : WF (m 69)) (s : Nat) (hs : s < 16) : JM l g 2 mX12_ofSill [rf g 68, .int (nI s), .int 3] m (RF (some (.int (setF (fun h => hf (m 69) h 2 = nI s) (hn (m 69))))) m) := by
  refine JM_of (ls := [some (rf g 68), some (.int (nI s)), some (.int 3), none, none]) pn_X12 rfl rfl ?_
  refine j_iload1 1 dX12_ofSill_0 rfl ?_
  refine j_st1f 4 dX12_ofSill_1 rfl rfl cl_X12_174 rfl (c_misSill m _) ?_
  refine j_if_eq_bz 19 7 dX12_ofSill_4 rfl rfl (fun h4 => absurd ((rngN 15 (by decide)).mpr ⟨s, by omega, rfl⟩) h4) (fun h4 => ?_)
  refine j_iload2 8 dX12_ofSill_7 rfl ?_
  refine j_i2l 9 dX12_ofSill_8 rfl ?_
  refine j_lconst 10 (v := 0) dX12_ofSill_9 rfl rfl ?_
  refine j_ldc2 13 dX12_ofSill_10 rfl kl_X12_182 ?_
  refine j_st3f 16 dX12_ofSill_13 rfl rfl cl_X12_47 rfl (c_in m _ 0 3) ?_
  refine j_if_ne_bz 25 19 dX12_ofSill_16 rfl rfl (fun h16 => ?_) (fun h16 => absurd (by decide) h16)
  refine j_iload2 26 dX12_ofSill_25 rfl ?_
  refine j_iconst 27 (v := 3) dX12_ofSill_26 rfl rfl ?_
  refine j_cmp_ge 58 30 dX12_ofSill_27 rfl rfl (fun h27 => ?_) (fun h27 => absurd (by decide) h27)
  refine j_iconst 59 (v := 0) dX12_ofSill_58 rfl rfl ?_
  refine j_istore3 60 dX12_ofSill_59 rfl rfl rfl ?_
  refine j_iconst 61 (v := 0) dX12_ofSill_60 rfl rfl ?_
  refine j_istore4 63 dX12_ofSill_61 rfl rfl rfl ?_
  exact lp_mlots (m 69) wf m _ rfl ⟨rfl, rfl⟩ _ 0 (Nat.zero_add _)
theorem op_ofSill {m : Mem} (I : INV m) (s w : Int32) : OPr l g mX11_ofSill mX12_ofSill [.int s, .int w] m := by
  obtain ⟨⟨wf, hd, hT, hP⟩, -⟩ := id I
  by_cases c : cOf s w
  · obtain ⟨hs, hw⟩ := c
    obtain ⟨j, hj, rfl⟩ := (rngN 15 (by decide)).mp hs
    obtain ⟨k, hk, rfl⟩ := (rngN 3 (by decide)).mp hw
    rcases (show k = 0 ∨ k = 1 ∨ k = 2 ∨ k = 3 by omega) with rfl | rfl | rfl | rfl
    · refine ⟨2, 2, _, _, by decide, by decide, o_ofSill0 m (m 69) wf hT j (by omega), fun m' e => ?_⟩
      subst e
      have hq := p_ofSill0 (l := l) (g := g) m' wf j (by omega)
      rw [show m' 69 (8 + j) = m' 10 j from (hT.2.2.2.2.2.1 j (by omega)).symm] at hq
      exact hq.mono (RS_w (fun m2 q => by subst q; exact I))
    · refine ⟨2, 2, _, _, by decide, by decide, o_ofSill1 m (m 69) wf hT j (by omega), fun m' e => ?_⟩
      subst e
      have hq := p_ofSill1 (l := l) (g := g) m' wf j (by omega)
      rw [show m' 69 (24 + j) = m' 11 j from (hT.2.2.2.2.2.2.1 j (by omega)).symm] at hq
      exact hq.mono (RS_w (fun m2 q => by subst q; exact I))
    · refine ⟨2, 2, _, _, by decide, by decide, o_ofSill2 m (m 69) wf hT j (by omega), fun m' e => ?_⟩
      subst e
      have hq := p_ofSill2 (l := l) (g := g) m' wf j (by omega)
      exact hq.mono (RS_w (fun m2 q => by subst q; exact I))
    · refine ⟨2, 2, _, _, by decide, by decide, o_ofSill3 m (m 69) wf hT j (by omega), fun m' e => ?_⟩
      subst e
      have hq := p_ofSill3 (l := l) (g := g) m' wf j (by omega)
      exact hq.mono (RS_w (fun m2 q => by subst q; exact I))
  · exact OPr_err I (by decide) (by decide) (by decide) (e_ofSill m s w c) (f_ofSill _ s w c)
-- ofHeir
set_option maxRecDepth 100000 in
theorem e_ofHeirh (m : Mem) (h w : Int32) (hc : ¬ (0 ≤ h ∧ h < m 9 9 ∧ h < 8)) : JM l g 4 mX11_ofHeir [rf g 0, .int h, .int w] m (RF (some (.int (-1000000001))) (errC 1 m)) := by
  refine JM_of (ls := [some (rf g 0), some (.int h), some (.int w)]) pn_X11 rfl rfl ?_
  refine j_aload0 1 dX11_ofHeir_0 rfl ?_
  refine j_iload1 2 dX11_ofHeir_1 rfl ?_
  refine j_vi1f 5 dX11_ofHeir_2 rfl rfl cl_X11_124 rfl rfl (c_isHeir m h) ?_
  refine j_if_ne_bz 15 8 dX11_ofHeir_5 rfl rfl (fun h5 => absurd h5 hc) (fun h5 => ?_)
  refine j_aload0 9 dX11_ofHeir_8 rfl ?_
  refine j_ldc 11 dX11_ofHeir_9 rfl kc_X11_81 ?_
  refine j_vi1f 14 dX11_ofHeir_11 rfl rfl cl_X11_82 rfl rfl (c_err1 m) ?_
  refine j_iret dX11_ofHeir_14 rfl ?_
  exact ⟨rfl, rfl⟩
set_option maxRecDepth 100000 in
theorem e_ofHeirw (m : Mem) (h w : Int32) (h1 : 0 ≤ h ∧ h < m 9 9 ∧ h < 8) (c : ¬ (0 ≤ w ∧ w ≤ nI 9)) : JM l g 4 mX11_ofHeir [rf g 0, .int h, .int w] m (RF (some (.int (-1000000001))) (errC 1 m)) := by
  refine JM_of (ls := [some (rf g 0), some (.int h), some (.int w)]) pn_X11 rfl rfl ?_
  refine j_aload0 1 dX11_ofHeir_0 rfl ?_
  refine j_iload1 2 dX11_ofHeir_1 rfl ?_
  refine j_vi1f 5 dX11_ofHeir_2 rfl rfl cl_X11_124 rfl rfl (c_isHeir m h) ?_
  refine j_if_ne_bz 15 8 dX11_ofHeir_5 rfl rfl (fun h5 => ?_) (fun h5 => absurd h1 h5)
  refine j_iload2 16 dX11_ofHeir_15 rfl ?_
  refine j_tabOut 215 dX11_ofHeir_16 (outN (by decide) c) rfl ?_
  refine j_aload0 216 dX11_ofHeir_215 rfl ?_
  refine j_ldc 218 dX11_ofHeir_216 rfl kc_X11_81 ?_
  refine j_vi1f 221 dX11_ofHeir_218 rfl rfl cl_X11_82 rfl rfl (c_err1 m) ?_
  refine j_iret dX11_ofHeir_221 rfl ?_
  exact ⟨rfl, rfl⟩
set_option maxRecDepth 100000 in
theorem f_ofHeir (m : Mem) (h w : Int32) (hc : ¬ ((0 ≤ h ∧ h ≤ m 69 0 - 1) ∧ 0 ≤ w ∧ w ≤ nI 9)) : JM l g 4 mX12_ofHeir [rf g 68, .int h, .int w] m (RF (some (.int (-1000000001))) (errM 1 m)) := by
  refine JM_of (ls := [some (rf g 68), some (.int h), some (.int w)]) pn_X12 rfl rfl ?_
  refine j_aload0 1 dX12_ofHeir_0 rfl ?_
  refine j_iload1 2 dX12_ofHeir_1 rfl ?_
  refine j_vi1f 5 dX12_ofHeir_2 rfl rfl cl_X12_199 rfl rfl (c_misHeir m h) ?_
  refine j_if_eq_bz 20 8 dX12_ofHeir_5 rfl rfl (fun h5 => ?_) (fun h5 => ?_)
  · refine j_aload0 21 dX12_ofHeir_20 rfl ?_
    refine j_iconst 22 (v := 1) dX12_ofHeir_21 rfl rfl ?_
    refine j_vi1f 25 dX12_ofHeir_22 rfl rfl cl_X12_126 rfl rfl (c_finds1 m) ?_
    refine j_iret dX12_ofHeir_25 rfl ?_
    exact ⟨rfl, rfl⟩
  · refine j_iload2 9 dX12_ofHeir_8 rfl ?_
    refine j_i2l 10 dX12_ofHeir_9 rfl ?_
    refine j_lconst 11 (v := 0) dX12_ofHeir_10 rfl rfl ?_
    refine j_ldc2 14 dX12_ofHeir_11 rfl kl_X12_177 ?_
    refine j_st3f 17 dX12_ofHeir_14 rfl rfl cl_X12_47 rfl (c_in m w 0 9) ?_
    refine j_if_ne_bz 26 20 dX12_ofHeir_17 rfl rfl (fun h17 => ?_) (fun h17 => ?_)
    · exact absurd ⟨h5, h17⟩ hc
    · refine j_aload0 21 dX12_ofHeir_20 rfl ?_
      refine j_iconst 22 (v := 1) dX12_ofHeir_21 rfl rfl ?_
      refine j_vi1f 25 dX12_ofHeir_22 rfl rfl cl_X12_126 rfl rfl (c_finds1 m) ?_
      refine j_iret dX12_ofHeir_25 rfl ?_
      exact ⟨rfl, rfl⟩
set_option maxRecDepth 100000 in
theorem o_ofHeir0 (m : Mem) (d : Nat → Int32) (wf : WF d) (hT : TR 9 m d) (h : Nat) (hh : h < 8) (h1 : 0 ≤ nI h ∧ nI h < m 9 9 ∧ nI h < 8) : JM l g 4 mX11_ofHeir [rf g 0, .int (nI h), .int 0] m (RF (some (.int (hf d h 0))) m) := by
  refine JM_of (ls := [some (rf g 0), some (.int (nI h)), some (.int 0)]) pn_X11 rfl rfl ?_
  obtain ⟨x0, x1, x2, x3, x4, x5, x6⟩ := wf.hw hh
  obtain ⟨t9, t10, t11, t12, t13, ts, tt, th⟩ := hT
  have f0 : m 12 h = hf d h 0 := th h hh 0 (by decide)
  have f1 : m 13 h = hf d h 1 := th h hh 1 (by decide)
  have f2 : m 14 h = hf d h 2 := th h hh 2 (by decide)
  have f3 : m 15 h = hf d h 3 := th h hh 3 (by decide)
  have f4 : m 16 h = hf d h 4 := th h hh 4 (by decide)
  have f5 : m 17 h = hf d h 5 := th h hh 5 (by decide)
  have ek : m 12 h = nI (kN d h) := f0.trans (nb_cl x0 (by decide)).2
  have hk : kN d h < 7 := (nb_cl x0 (by decide)).1
  have ts : ∀ i, i < 16 → m 10 i = d (8 + i) := ts
  refine j_aload0 1 dX11_ofHeir_0 rfl ?_
  refine j_iload1 2 dX11_ofHeir_1 rfl ?_
  refine j_vi1f 5 dX11_ofHeir_2 rfl rfl cl_X11_124 rfl rfl (c_isHeir m _) ?_
  refine j_if_ne_bz 15 8 dX11_ofHeir_5 rfl rfl (fun h5 => ?_) (fun h5 => absurd h1 h5)
  refine j_iload2 16 dX11_ofHeir_15 rfl ?_
  refine j_tabIn 72 dX11_ofHeir_16 (by decide) (by decide) rfl rfl ?_
  refine j_aload0 73 dX11_ofHeir_72 rfl ?_
  refine j_getR 76 dX11_ofHeir_73 rfl fl_X11_35 rfl rfl ?_
  refine j_getR 79 dX11_ofHeir_76 rfl fl_X11_127 rfl rfl ?_
  refine j_iload1 80 dX11_ofHeir_79 rfl ?_
  refine j_iald 81 _ rfl hh dX11_ofHeir_80 rfl rfl ?_
  refine j_iret dX11_ofHeir_81 rfl ?_
  exact rf_e f0
set_option maxRecDepth 100000 in
theorem p_ofHeir0 (m : Mem) (d : Nat → Int32) (wf : WF d) (hm : m 69 = d) (hdy : nb (d 1) 20000) (h : Nat) (hh : h < 8) (h1 : 0 ≤ nI h ∧ nI h ≤ m 69 0 - 1) : JM l g 4 mX12_ofHeir [rf g 68, .int (nI h), .int 0] m (RF (some (.int (hf d h 0))) m) := by
  refine JM_of (ls := [some (rf g 68), some (.int (nI h)), some (.int 0)]) pn_X12 rfl rfl ?_
  subst hm
  obtain ⟨x0, x1, x2, x3, x4, x5, x6⟩ := id (wf.hw hh)
  refine j_aload0 1 dX12_ofHeir_0 rfl ?_
  refine j_iload1 2 dX12_ofHeir_1 rfl ?_
  refine j_vi1f 5 dX12_ofHeir_2 rfl rfl cl_X12_199 rfl rfl (c_misHeir m _) ?_
  refine j_if_eq_bz 20 8 dX12_ofHeir_5 rfl rfl (fun h5 => absurd h1 h5) (fun h5 => ?_)
  refine j_iload2 9 dX12_ofHeir_8 rfl ?_
  refine j_i2l 10 dX12_ofHeir_9 rfl ?_
  refine j_lconst 11 (v := 0) dX12_ofHeir_10 rfl rfl ?_
  refine j_ldc2 14 dX12_ofHeir_11 rfl kl_X12_177 ?_
  refine j_st3f 17 dX12_ofHeir_14 rfl rfl cl_X12_47 rfl (c_in m _ 0 9) ?_
  refine j_if_ne_bz 26 20 dX12_ofHeir_17 rfl rfl (fun h17 => ?_) (fun h17 => absurd (by decide) h17)
  refine j_iload2 27 dX12_ofHeir_26 rfl ?_
  refine j_tabOut 99 dX12_ofHeir_27 (by decide) rfl ?_
  refine j_aload0 100 dX12_ofHeir_99 rfl ?_
  refine j_iload1 101 dX12_ofHeir_100 rfl ?_
  refine j_iload2 102 dX12_ofHeir_101 rfl ?_
  refine j_vi2f 105 dX12_ofHeir_102 rfl rfl cl_X12_146 rfl rfl (c_of m h 0 hh (by decide)) ?_
  refine j_iret dX12_ofHeir_105 rfl ?_
  exact ⟨rfl, rfl⟩
set_option maxRecDepth 100000 in
theorem o_ofHeir1 (m : Mem) (d : Nat → Int32) (wf : WF d) (hT : TR 9 m d) (h : Nat) (hh : h < 8) (h1 : 0 ≤ nI h ∧ nI h < m 9 9 ∧ nI h < 8) : JM l g 4 mX11_ofHeir [rf g 0, .int (nI h), .int 1] m (RF (some (.int (hf d h 1))) m) := by
  refine JM_of (ls := [some (rf g 0), some (.int (nI h)), some (.int 1)]) pn_X11 rfl rfl ?_
  obtain ⟨x0, x1, x2, x3, x4, x5, x6⟩ := wf.hw hh
  obtain ⟨t9, t10, t11, t12, t13, ts, tt, th⟩ := hT
  have f0 : m 12 h = hf d h 0 := th h hh 0 (by decide)
  have f1 : m 13 h = hf d h 1 := th h hh 1 (by decide)
  have f2 : m 14 h = hf d h 2 := th h hh 2 (by decide)
  have f3 : m 15 h = hf d h 3 := th h hh 3 (by decide)
  have f4 : m 16 h = hf d h 4 := th h hh 4 (by decide)
  have f5 : m 17 h = hf d h 5 := th h hh 5 (by decide)
  have ek : m 12 h = nI (kN d h) := f0.trans (nb_cl x0 (by decide)).2
  have hk : kN d h < 7 := (nb_cl x0 (by decide)).1
  have ts : ∀ i, i < 16 → m 10 i = d (8 + i) := ts
  refine j_aload0 1 dX11_ofHeir_0 rfl ?_
  refine j_iload1 2 dX11_ofHeir_1 rfl ?_
  refine j_vi1f 5 dX11_ofHeir_2 rfl rfl cl_X11_124 rfl rfl (c_isHeir m _) ?_
  refine j_if_ne_bz 15 8 dX11_ofHeir_5 rfl rfl (fun h5 => ?_) (fun h5 => absurd h1 h5)
  refine j_iload2 16 dX11_ofHeir_15 rfl ?_
  refine j_tabIn 82 dX11_ofHeir_16 (by decide) (by decide) rfl rfl ?_
  refine j_aload0 83 dX11_ofHeir_82 rfl ?_
  refine j_getR 86 dX11_ofHeir_83 rfl fl_X11_35 rfl rfl ?_
  refine j_getR 89 dX11_ofHeir_86 rfl fl_X11_130 rfl rfl ?_
  refine j_iload1 90 dX11_ofHeir_89 rfl ?_
  refine j_iald 91 _ rfl hh dX11_ofHeir_90 rfl rfl ?_
  refine j_iret dX11_ofHeir_91 rfl ?_
  exact rf_e f1
set_option maxRecDepth 100000 in
theorem p_ofHeir1 (m : Mem) (d : Nat → Int32) (wf : WF d) (hm : m 69 = d) (hdy : nb (d 1) 20000) (h : Nat) (hh : h < 8) (h1 : 0 ≤ nI h ∧ nI h ≤ m 69 0 - 1) : JM l g 4 mX12_ofHeir [rf g 68, .int (nI h), .int 1] m (RF (some (.int (hf d h 1))) m) := by
  refine JM_of (ls := [some (rf g 68), some (.int (nI h)), some (.int 1)]) pn_X12 rfl rfl ?_
  subst hm
  obtain ⟨x0, x1, x2, x3, x4, x5, x6⟩ := id (wf.hw hh)
  refine j_aload0 1 dX12_ofHeir_0 rfl ?_
  refine j_iload1 2 dX12_ofHeir_1 rfl ?_
  refine j_vi1f 5 dX12_ofHeir_2 rfl rfl cl_X12_199 rfl rfl (c_misHeir m _) ?_
  refine j_if_eq_bz 20 8 dX12_ofHeir_5 rfl rfl (fun h5 => absurd h1 h5) (fun h5 => ?_)
  refine j_iload2 9 dX12_ofHeir_8 rfl ?_
  refine j_i2l 10 dX12_ofHeir_9 rfl ?_
  refine j_lconst 11 (v := 0) dX12_ofHeir_10 rfl rfl ?_
  refine j_ldc2 14 dX12_ofHeir_11 rfl kl_X12_177 ?_
  refine j_st3f 17 dX12_ofHeir_14 rfl rfl cl_X12_47 rfl (c_in m _ 0 9) ?_
  refine j_if_ne_bz 26 20 dX12_ofHeir_17 rfl rfl (fun h17 => ?_) (fun h17 => absurd (by decide) h17)
  refine j_iload2 27 dX12_ofHeir_26 rfl ?_
  refine j_tabOut 99 dX12_ofHeir_27 (by decide) rfl ?_
  refine j_aload0 100 dX12_ofHeir_99 rfl ?_
  refine j_iload1 101 dX12_ofHeir_100 rfl ?_
  refine j_iload2 102 dX12_ofHeir_101 rfl ?_
  refine j_vi2f 105 dX12_ofHeir_102 rfl rfl cl_X12_146 rfl rfl (c_of m h 1 hh (by decide)) ?_
  refine j_iret dX12_ofHeir_105 rfl ?_
  exact ⟨rfl, rfl⟩
set_option maxRecDepth 100000 in
theorem o_ofHeir2 (m : Mem) (d : Nat → Int32) (wf : WF d) (hT : TR 9 m d) (h : Nat) (hh : h < 8) (h1 : 0 ≤ nI h ∧ nI h < m 9 9 ∧ nI h < 8) : JM l g 4 mX11_ofHeir [rf g 0, .int (nI h), .int 2] m (RF (some (.int (hf d h 2))) m) := by
  refine JM_of (ls := [some (rf g 0), some (.int (nI h)), some (.int 2)]) pn_X11 rfl rfl ?_
  obtain ⟨x0, x1, x2, x3, x4, x5, x6⟩ := wf.hw hh
  obtain ⟨t9, t10, t11, t12, t13, ts, tt, th⟩ := hT
  have f0 : m 12 h = hf d h 0 := th h hh 0 (by decide)
  have f1 : m 13 h = hf d h 1 := th h hh 1 (by decide)
  have f2 : m 14 h = hf d h 2 := th h hh 2 (by decide)
  have f3 : m 15 h = hf d h 3 := th h hh 3 (by decide)
  have f4 : m 16 h = hf d h 4 := th h hh 4 (by decide)
  have f5 : m 17 h = hf d h 5 := th h hh 5 (by decide)
  have ek : m 12 h = nI (kN d h) := f0.trans (nb_cl x0 (by decide)).2
  have hk : kN d h < 7 := (nb_cl x0 (by decide)).1
  have ts : ∀ i, i < 16 → m 10 i = d (8 + i) := ts
  refine j_aload0 1 dX11_ofHeir_0 rfl ?_
  refine j_iload1 2 dX11_ofHeir_1 rfl ?_
  refine j_vi1f 5 dX11_ofHeir_2 rfl rfl cl_X11_124 rfl rfl (c_isHeir m _) ?_
  refine j_if_ne_bz 15 8 dX11_ofHeir_5 rfl rfl (fun h5 => ?_) (fun h5 => absurd h1 h5)
  refine j_iload2 16 dX11_ofHeir_15 rfl ?_
  refine j_tabIn 92 dX11_ofHeir_16 (by decide) (by decide) rfl rfl ?_
  refine j_aload0 93 dX11_ofHeir_92 rfl ?_
  refine j_getR 96 dX11_ofHeir_93 rfl fl_X11_35 rfl rfl ?_
  refine j_getR 99 dX11_ofHeir_96 rfl fl_X11_133 rfl rfl ?_
  refine j_iload1 100 dX11_ofHeir_99 rfl ?_
  refine j_iald 101 _ rfl hh dX11_ofHeir_100 rfl rfl ?_
  refine j_iret dX11_ofHeir_101 rfl ?_
  exact rf_e f2
set_option maxRecDepth 100000 in
theorem p_ofHeir2 (m : Mem) (d : Nat → Int32) (wf : WF d) (hm : m 69 = d) (hdy : nb (d 1) 20000) (h : Nat) (hh : h < 8) (h1 : 0 ≤ nI h ∧ nI h ≤ m 69 0 - 1) : JM l g 4 mX12_ofHeir [rf g 68, .int (nI h), .int 2] m (RF (some (.int (hf d h 2))) m) := by
  refine JM_of (ls := [some (rf g 68), some (.int (nI h)), some (.int 2)]) pn_X12 rfl rfl ?_
  subst hm
  obtain ⟨x0, x1, x2, x3, x4, x5, x6⟩ := id (wf.hw hh)
  refine j_aload0 1 dX12_ofHeir_0 rfl ?_
  refine j_iload1 2 dX12_ofHeir_1 rfl ?_
  refine j_vi1f 5 dX12_ofHeir_2 rfl rfl cl_X12_199 rfl rfl (c_misHeir m _) ?_
  refine j_if_eq_bz 20 8 dX12_ofHeir_5 rfl rfl (fun h5 => absurd h1 h5) (fun h5 => ?_)
  refine j_iload2 9 dX12_ofHeir_8 rfl ?_
  refine j_i2l 10 dX12_ofHeir_9 rfl ?_
  refine j_lconst 11 (v := 0) dX12_ofHeir_10 rfl rfl ?_
  refine j_ldc2 14 dX12_ofHeir_11 rfl kl_X12_177 ?_
  refine j_st3f 17 dX12_ofHeir_14 rfl rfl cl_X12_47 rfl (c_in m _ 0 9) ?_
  refine j_if_ne_bz 26 20 dX12_ofHeir_17 rfl rfl (fun h17 => ?_) (fun h17 => absurd (by decide) h17)
  refine j_iload2 27 dX12_ofHeir_26 rfl ?_
  refine j_tabOut 99 dX12_ofHeir_27 (by decide) rfl ?_
  refine j_aload0 100 dX12_ofHeir_99 rfl ?_
  refine j_iload1 101 dX12_ofHeir_100 rfl ?_
  refine j_iload2 102 dX12_ofHeir_101 rfl ?_
  refine j_vi2f 105 dX12_ofHeir_102 rfl rfl cl_X12_146 rfl rfl (c_of m h 2 hh (by decide)) ?_
  refine j_iret dX12_ofHeir_105 rfl ?_
  exact ⟨rfl, rfl⟩
set_option maxRecDepth 100000 in
theorem o_ofHeir3 (m : Mem) (d : Nat → Int32) (wf : WF d) (hT : TR 9 m d) (h : Nat) (hh : h < 8) (h1 : 0 ≤ nI h ∧ nI h < m 9 9 ∧ nI h < 8) : JM l g 4 mX11_ofHeir [rf g 0, .int (nI h), .int 3] m (RF (some (.int (hf d h 3))) m) := by
  refine JM_of (ls := [some (rf g 0), some (.int (nI h)), some (.int 3)]) pn_X11 rfl rfl ?_
  obtain ⟨x0, x1, x2, x3, x4, x5, x6⟩ := wf.hw hh
  obtain ⟨t9, t10, t11, t12, t13, ts, tt, th⟩ := hT
  have f0 : m 12 h = hf d h 0 := th h hh 0 (by decide)
  have f1 : m 13 h = hf d h 1 := th h hh 1 (by decide)
  have f2 : m 14 h = hf d h 2 := th h hh 2 (by decide)
  have f3 : m 15 h = hf d h 3 := th h hh 3 (by decide)
  have f4 : m 16 h = hf d h 4 := th h hh 4 (by decide)
  have f5 : m 17 h = hf d h 5 := th h hh 5 (by decide)
  have ek : m 12 h = nI (kN d h) := f0.trans (nb_cl x0 (by decide)).2
  have hk : kN d h < 7 := (nb_cl x0 (by decide)).1
  have ts : ∀ i, i < 16 → m 10 i = d (8 + i) := ts
  refine j_aload0 1 dX11_ofHeir_0 rfl ?_
  refine j_iload1 2 dX11_ofHeir_1 rfl ?_
  refine j_vi1f 5 dX11_ofHeir_2 rfl rfl cl_X11_124 rfl rfl (c_isHeir m _) ?_
  refine j_if_ne_bz 15 8 dX11_ofHeir_5 rfl rfl (fun h5 => ?_) (fun h5 => absurd h1 h5)
  refine j_iload2 16 dX11_ofHeir_15 rfl ?_
  refine j_tabIn 102 dX11_ofHeir_16 (by decide) (by decide) rfl rfl ?_
  refine j_aload0 103 dX11_ofHeir_102 rfl ?_
  refine j_getR 106 dX11_ofHeir_103 rfl fl_X11_35 rfl rfl ?_
  refine j_getR 109 dX11_ofHeir_106 rfl fl_X11_136 rfl rfl ?_
  refine j_iload1 110 dX11_ofHeir_109 rfl ?_
  refine j_iald 111 _ rfl hh dX11_ofHeir_110 rfl rfl ?_
  refine j_iret dX11_ofHeir_111 rfl ?_
  exact rf_e f3
set_option maxRecDepth 100000 in
theorem p_ofHeir3 (m : Mem) (d : Nat → Int32) (wf : WF d) (hm : m 69 = d) (hdy : nb (d 1) 20000) (h : Nat) (hh : h < 8) (h1 : 0 ≤ nI h ∧ nI h ≤ m 69 0 - 1) : JM l g 4 mX12_ofHeir [rf g 68, .int (nI h), .int 3] m (RF (some (.int (hf d h 3))) m) := by
  refine JM_of (ls := [some (rf g 68), some (.int (nI h)), some (.int 3)]) pn_X12 rfl rfl ?_
  subst hm
  obtain ⟨x0, x1, x2, x3, x4, x5, x6⟩ := id (wf.hw hh)
  refine j_aload0 1 dX12_ofHeir_0 rfl ?_
  refine j_iload1 2 dX12_ofHeir_1 rfl ?_
  refine j_vi1f 5 dX12_ofHeir_2 rfl rfl cl_X12_199 rfl rfl (c_misHeir m _) ?_
  refine j_if_eq_bz 20 8 dX12_ofHeir_5 rfl rfl (fun h5 => absurd h1 h5) (fun h5 => ?_)
  refine j_iload2 9 dX12_ofHeir_8 rfl ?_
  refine j_i2l 10 dX12_ofHeir_9 rfl ?_
  refine j_lconst 11 (v := 0) dX12_ofHeir_10 rfl rfl ?_
  refine j_ldc2 14 dX12_ofHeir_11 rfl kl_X12_177 ?_
  refine j_st3f 17 dX12_ofHeir_14 rfl rfl cl_X12_47 rfl (c_in m _ 0 9) ?_
  refine j_if_ne_bz 26 20 dX12_ofHeir_17 rfl rfl (fun h17 => ?_) (fun h17 => absurd (by decide) h17)
  refine j_iload2 27 dX12_ofHeir_26 rfl ?_
  refine j_tabOut 99 dX12_ofHeir_27 (by decide) rfl ?_
  refine j_aload0 100 dX12_ofHeir_99 rfl ?_
  refine j_iload1 101 dX12_ofHeir_100 rfl ?_
  refine j_iload2 102 dX12_ofHeir_101 rfl ?_
  refine j_vi2f 105 dX12_ofHeir_102 rfl rfl cl_X12_146 rfl rfl (c_of m h 3 hh (by decide)) ?_
  refine j_iret dX12_ofHeir_105 rfl ?_
  exact ⟨rfl, rfl⟩
set_option maxRecDepth 100000 in
theorem o_ofHeir4 (m : Mem) (d : Nat → Int32) (wf : WF d) (hT : TR 9 m d) (h : Nat) (hh : h < 8) (h1 : 0 ≤ nI h ∧ nI h < m 9 9 ∧ nI h < 8) : JM l g 4 mX11_ofHeir [rf g 0, .int (nI h), .int 4] m (RF (some (.int (hf d h 4))) m) := by
  refine JM_of (ls := [some (rf g 0), some (.int (nI h)), some (.int 4)]) pn_X11 rfl rfl ?_
  obtain ⟨x0, x1, x2, x3, x4, x5, x6⟩ := wf.hw hh
  obtain ⟨t9, t10, t11, t12, t13, ts, tt, th⟩ := hT
  have f0 : m 12 h = hf d h 0 := th h hh 0 (by decide)
  have f1 : m 13 h = hf d h 1 := th h hh 1 (by decide)
  have f2 : m 14 h = hf d h 2 := th h hh 2 (by decide)
  have f3 : m 15 h = hf d h 3 := th h hh 3 (by decide)
  have f4 : m 16 h = hf d h 4 := th h hh 4 (by decide)
  have f5 : m 17 h = hf d h 5 := th h hh 5 (by decide)
  have ek : m 12 h = nI (kN d h) := f0.trans (nb_cl x0 (by decide)).2
  have hk : kN d h < 7 := (nb_cl x0 (by decide)).1
  have ts : ∀ i, i < 16 → m 10 i = d (8 + i) := ts
  refine j_aload0 1 dX11_ofHeir_0 rfl ?_
  refine j_iload1 2 dX11_ofHeir_1 rfl ?_
  refine j_vi1f 5 dX11_ofHeir_2 rfl rfl cl_X11_124 rfl rfl (c_isHeir m _) ?_
  refine j_if_ne_bz 15 8 dX11_ofHeir_5 rfl rfl (fun h5 => ?_) (fun h5 => absurd h1 h5)
  refine j_iload2 16 dX11_ofHeir_15 rfl ?_
  refine j_tabIn 112 dX11_ofHeir_16 (by decide) (by decide) rfl rfl ?_
  refine j_aload0 113 dX11_ofHeir_112 rfl ?_
  refine j_getR 116 dX11_ofHeir_113 rfl fl_X11_35 rfl rfl ?_
  refine j_getR 119 dX11_ofHeir_116 rfl fl_X11_139 rfl rfl ?_
  refine j_iload1 120 dX11_ofHeir_119 rfl ?_
  refine j_iald 121 _ rfl hh dX11_ofHeir_120 rfl rfl ?_
  refine j_iret dX11_ofHeir_121 rfl ?_
  exact rf_e f4
set_option maxRecDepth 100000 in
theorem p_ofHeir4 (m : Mem) (d : Nat → Int32) (wf : WF d) (hm : m 69 = d) (hdy : nb (d 1) 20000) (h : Nat) (hh : h < 8) (h1 : 0 ≤ nI h ∧ nI h ≤ m 69 0 - 1) : JM l g 4 mX12_ofHeir [rf g 68, .int (nI h), .int 4] m (RF (some (.int (hf d h 4))) m) := by
  refine JM_of (ls := [some (rf g 68), some (.int (nI h)), some (.int 4)]) pn_X12 rfl rfl ?_
  subst hm
  obtain ⟨x0, x1, x2, x3, x4, x5, x6⟩ := id (wf.hw hh)
  refine j_aload0 1 dX12_ofHeir_0 rfl ?_
  refine j_iload1 2 dX12_ofHeir_1 rfl ?_
  refine j_vi1f 5 dX12_ofHeir_2 rfl rfl cl_X12_199 rfl rfl (c_misHeir m _) ?_
  refine j_if_eq_bz 20 8 dX12_ofHeir_5 rfl rfl (fun h5 => absurd h1 h5) (fun h5 => ?_)
  refine j_iload2 9 dX12_ofHeir_8 rfl ?_
  refine j_i2l 10 dX12_ofHeir_9 rfl ?_
  refine j_lconst 11 (v := 0) dX12_ofHeir_10 rfl rfl ?_
  refine j_ldc2 14 dX12_ofHeir_11 rfl kl_X12_177 ?_
  refine j_st3f 17 dX12_ofHeir_14 rfl rfl cl_X12_47 rfl (c_in m _ 0 9) ?_
  refine j_if_ne_bz 26 20 dX12_ofHeir_17 rfl rfl (fun h17 => ?_) (fun h17 => absurd (by decide) h17)
  refine j_iload2 27 dX12_ofHeir_26 rfl ?_
  refine j_tabOut 99 dX12_ofHeir_27 (by decide) rfl ?_
  refine j_aload0 100 dX12_ofHeir_99 rfl ?_
  refine j_iload1 101 dX12_ofHeir_100 rfl ?_
  refine j_iload2 102 dX12_ofHeir_101 rfl ?_
  refine j_vi2f 105 dX12_ofHeir_102 rfl rfl cl_X12_146 rfl rfl (c_of m h 4 hh (by decide)) ?_
  refine j_iret dX12_ofHeir_105 rfl ?_
  exact ⟨rfl, rfl⟩
set_option maxRecDepth 100000 in
theorem o_ofHeir5 (m : Mem) (d : Nat → Int32) (wf : WF d) (hT : TR 9 m d) (h : Nat) (hh : h < 8) (h1 : 0 ≤ nI h ∧ nI h < m 9 9 ∧ nI h < 8) : JM l g 4 mX11_ofHeir [rf g 0, .int (nI h), .int 5] m (RF (some (.int (hf d h 5))) m) := by
  refine JM_of (ls := [some (rf g 0), some (.int (nI h)), some (.int 5)]) pn_X11 rfl rfl ?_
  obtain ⟨x0, x1, x2, x3, x4, x5, x6⟩ := wf.hw hh
  obtain ⟨t9, t10, t11, t12, t13, ts, tt, th⟩ := hT
  have f0 : m 12 h = hf d h 0 := th h hh 0 (by decide)
  have f1 : m 13 h = hf d h 1 := th h hh 1 (by decide)
  have f2 : m 14 h = hf d h 2 := th h hh 2 (by decide)
  have f3 : m 15 h = hf d h 3 := th h hh 3 (by decide)
  have f4 : m 16 h = hf d h 4 := th h hh 4 (by decide)
  have f5 : m 17 h = hf d h 5 := th h hh 5 (by decide)
  have ek : m 12 h = nI (kN d h) := f0.trans (nb_cl x0 (by decide)).2
  have hk : kN d h < 7 := (nb_cl x0 (by decide)).1
  have ts : ∀ i, i < 16 → m 10 i = d (8 + i) := ts
  refine j_aload0 1 dX11_ofHeir_0 rfl ?_
  refine j_iload1 2 dX11_ofHeir_1 rfl ?_
  refine j_vi1f 5 dX11_ofHeir_2 rfl rfl cl_X11_124 rfl rfl (c_isHeir m _) ?_
  refine j_if_ne_bz 15 8 dX11_ofHeir_5 rfl rfl (fun h5 => ?_) (fun h5 => absurd h1 h5)
  refine j_iload2 16 dX11_ofHeir_15 rfl ?_
  refine j_tabIn 122 dX11_ofHeir_16 (by decide) (by decide) rfl rfl ?_
  refine j_aload0 123 dX11_ofHeir_122 rfl ?_
  refine j_getR 126 dX11_ofHeir_123 rfl fl_X11_35 rfl rfl ?_
  refine j_getR 129 dX11_ofHeir_126 rfl fl_X11_142 rfl rfl ?_
  refine j_iload1 130 dX11_ofHeir_129 rfl ?_
  refine j_iald 131 _ rfl hh dX11_ofHeir_130 rfl rfl ?_
  refine j_iret dX11_ofHeir_131 rfl ?_
  exact rf_e f5
set_option maxRecDepth 100000 in
theorem p_ofHeir5 (m : Mem) (d : Nat → Int32) (wf : WF d) (hm : m 69 = d) (hdy : nb (d 1) 20000) (h : Nat) (hh : h < 8) (h1 : 0 ≤ nI h ∧ nI h ≤ m 69 0 - 1) : JM l g 4 mX12_ofHeir [rf g 68, .int (nI h), .int 5] m (RF (some (.int (hf d h 5))) m) := by
  refine JM_of (ls := [some (rf g 68), some (.int (nI h)), some (.int 5)]) pn_X12 rfl rfl ?_
  subst hm
  obtain ⟨x0, x1, x2, x3, x4, x5, x6⟩ := id (wf.hw hh)
  refine j_aload0 1 dX12_ofHeir_0 rfl ?_
  refine j_iload1 2 dX12_ofHeir_1 rfl ?_
  refine j_vi1f 5 dX12_ofHeir_2 rfl rfl cl_X12_199 rfl rfl (c_misHeir m _) ?_
  refine j_if_eq_bz 20 8 dX12_ofHeir_5 rfl rfl (fun h5 => absurd h1 h5) (fun h5 => ?_)
  refine j_iload2 9 dX12_ofHeir_8 rfl ?_
  refine j_i2l 10 dX12_ofHeir_9 rfl ?_
  refine j_lconst 11 (v := 0) dX12_ofHeir_10 rfl rfl ?_
  refine j_ldc2 14 dX12_ofHeir_11 rfl kl_X12_177 ?_
  refine j_st3f 17 dX12_ofHeir_14 rfl rfl cl_X12_47 rfl (c_in m _ 0 9) ?_
  refine j_if_ne_bz 26 20 dX12_ofHeir_17 rfl rfl (fun h17 => ?_) (fun h17 => absurd (by decide) h17)
  refine j_iload2 27 dX12_ofHeir_26 rfl ?_
  refine j_tabOut 99 dX12_ofHeir_27 (by decide) rfl ?_
  refine j_aload0 100 dX12_ofHeir_99 rfl ?_
  refine j_iload1 101 dX12_ofHeir_100 rfl ?_
  refine j_iload2 102 dX12_ofHeir_101 rfl ?_
  refine j_vi2f 105 dX12_ofHeir_102 rfl rfl cl_X12_146 rfl rfl (c_of m h 5 hh (by decide)) ?_
  refine j_iret dX12_ofHeir_105 rfl ?_
  exact ⟨rfl, rfl⟩
set_option maxRecDepth 100000 in
theorem o_ofHeir6 (m : Mem) (d : Nat → Int32) (wf : WF d) (hT : TR 9 m d) (h : Nat) (hh : h < 8) (h1 : 0 ≤ nI h ∧ nI h < m 9 9 ∧ nI h < 8) : JM l g 4 mX11_ofHeir [rf g 0, .int (nI h), .int 6] m (RF (some (.int (drF (kN d h) (d 2) (hf d h 1) (d 1)))) m) := by
  refine JM_of (ls := [some (rf g 0), some (.int (nI h)), some (.int 6)]) pn_X11 rfl rfl ?_
  obtain ⟨x0, x1, x2, x3, x4, x5, x6⟩ := wf.hw hh
  obtain ⟨t9, t10, t11, t12, t13, ts, tt, th⟩ := hT
  have f0 : m 12 h = hf d h 0 := th h hh 0 (by decide)
  have f1 : m 13 h = hf d h 1 := th h hh 1 (by decide)
  have f2 : m 14 h = hf d h 2 := th h hh 2 (by decide)
  have f3 : m 15 h = hf d h 3 := th h hh 3 (by decide)
  have f4 : m 16 h = hf d h 4 := th h hh 4 (by decide)
  have f5 : m 17 h = hf d h 5 := th h hh 5 (by decide)
  have ek : m 12 h = nI (kN d h) := f0.trans (nb_cl x0 (by decide)).2
  have hk : kN d h < 7 := (nb_cl x0 (by decide)).1
  have ts : ∀ i, i < 16 → m 10 i = d (8 + i) := ts
  refine j_aload0 1 dX11_ofHeir_0 rfl ?_
  refine j_iload1 2 dX11_ofHeir_1 rfl ?_
  refine j_vi1f 5 dX11_ofHeir_2 rfl rfl cl_X11_124 rfl rfl (c_isHeir m _) ?_
  refine j_if_ne_bz 15 8 dX11_ofHeir_5 rfl rfl (fun h5 => ?_) (fun h5 => absurd h1 h5)
  refine j_iload2 16 dX11_ofHeir_15 rfl ?_
  refine j_tabIn 132 dX11_ofHeir_16 (by decide) (by decide) rfl rfl ?_
  refine j_aload0 133 dX11_ofHeir_132 rfl ?_
  refine j_getR 136 dX11_ofHeir_133 rfl fl_X11_35 rfl rfl ?_
  refine j_iload1 137 dX11_ofHeir_136 rfl ?_
  refine j_aload0 138 dX11_ofHeir_137 rfl ?_
  refine j_getR 141 dX11_ofHeir_138 rfl fl_X11_35 rfl rfl ?_
  refine j_getI 144 dX11_ofHeir_141 rfl fl_X11_102 rfl rfl ?_
  refine j_vi2f 147 dX11_ofHeir_144 rfl rfl cl_X11_145 rfl rfl (c_driftsOf_9 m h (kN d h) _ hh hk ek) ?_
  refine j_iret dX11_ofHeir_147 rfl ?_
  exact rf_e (by rw [t10, t13, f1])
set_option maxRecDepth 100000 in
theorem p_ofHeir6 (m : Mem) (d : Nat → Int32) (wf : WF d) (hm : m 69 = d) (hdy : nb (d 1) 20000) (h : Nat) (hh : h < 8) (h1 : 0 ≤ nI h ∧ nI h ≤ m 69 0 - 1) : JM l g 4 mX12_ofHeir [rf g 68, .int (nI h), .int 6] m (RF (some (.int (drF (kN d h) (d 2) (hf d h 1) (d 1)))) m) := by
  refine JM_of (ls := [some (rf g 68), some (.int (nI h)), some (.int 6)]) pn_X12 rfl rfl ?_
  subst hm
  obtain ⟨x0, x1, x2, x3, x4, x5, x6⟩ := id (wf.hw hh)
  refine j_aload0 1 dX12_ofHeir_0 rfl ?_
  refine j_iload1 2 dX12_ofHeir_1 rfl ?_
  refine j_vi1f 5 dX12_ofHeir_2 rfl rfl cl_X12_199 rfl rfl (c_misHeir m _) ?_
  refine j_if_eq_bz 20 8 dX12_ofHeir_5 rfl rfl (fun h5 => absurd h1 h5) (fun h5 => ?_)
  refine j_iload2 9 dX12_ofHeir_8 rfl ?_
  refine j_i2l 10 dX12_ofHeir_9 rfl ?_
  refine j_lconst 11 (v := 0) dX12_ofHeir_10 rfl rfl ?_
  refine j_ldc2 14 dX12_ofHeir_11 rfl kl_X12_177 ?_
  refine j_st3f 17 dX12_ofHeir_14 rfl rfl cl_X12_47 rfl (c_in m _ 0 9) ?_
  refine j_if_ne_bz 26 20 dX12_ofHeir_17 rfl rfl (fun h17 => ?_) (fun h17 => absurd (by decide) h17)
  refine j_iload2 27 dX12_ofHeir_26 rfl ?_
  refine j_tabIn 56 dX12_ofHeir_27 (by decide) (by decide) rfl rfl ?_
  refine j_aload0 57 dX12_ofHeir_56 rfl ?_
  refine j_iload1 58 dX12_ofHeir_57 rfl ?_
  refine j_aload0 59 dX12_ofHeir_58 rfl ?_
  refine j_getR 62 dX12_ofHeir_59 rfl fl_X12_7 rfl rfl ?_
  refine j_iconst 63 (v := 2) dX12_ofHeir_62 rfl rfl ?_
  refine j_iald 64 2 rfl (by first | assumption | decide | omega) dX12_ofHeir_63 rfl rfl ?_
  refine j_vi2f 67 dX12_ofHeir_64 rfl rfl cl_X12_161 rfl rfl (c_mdrifts m h _ hh x0) ?_
  refine j_iret dX12_ofHeir_67 rfl ?_
  exact ⟨rfl, rfl⟩
set_option maxRecDepth 100000 in
theorem o_ofHeir7 (m : Mem) (d : Nat → Int32) (wf : WF d) (hT : TR 9 m d) (h : Nat) (hh : h < 8) (h1 : 0 ≤ nI h ∧ nI h < m 9 9 ∧ nI h < 8) : JM l g 4 mX11_ofHeir [rf g 0, .int (nI h), .int 7] m (RF (some (.int (shF (kN d h) (sunM d h) (hf d h 1) (d 1)))) m) := by
  refine JM_of (ls := [some (rf g 0), some (.int (nI h)), some (.int 7)]) pn_X11 rfl rfl ?_
  obtain ⟨x0, x1, x2, x3, x4, x5, x6⟩ := wf.hw hh
  obtain ⟨t9, t10, t11, t12, t13, ts, tt, th⟩ := hT
  have f0 : m 12 h = hf d h 0 := th h hh 0 (by decide)
  have f1 : m 13 h = hf d h 1 := th h hh 1 (by decide)
  have f2 : m 14 h = hf d h 2 := th h hh 2 (by decide)
  have f3 : m 15 h = hf d h 3 := th h hh 3 (by decide)
  have f4 : m 16 h = hf d h 4 := th h hh 4 (by decide)
  have f5 : m 17 h = hf d h 5 := th h hh 5 (by decide)
  have ek : m 12 h = nI (kN d h) := f0.trans (nb_cl x0 (by decide)).2
  have hk : kN d h < 7 := (nb_cl x0 (by decide)).1
  have ts : ∀ i, i < 16 → m 10 i = d (8 + i) := ts
  refine j_aload0 1 dX11_ofHeir_0 rfl ?_
  refine j_iload1 2 dX11_ofHeir_1 rfl ?_
  refine j_vi1f 5 dX11_ofHeir_2 rfl rfl cl_X11_124 rfl rfl (c_isHeir m _) ?_
  refine j_if_ne_bz 15 8 dX11_ofHeir_5 rfl rfl (fun h5 => ?_) (fun h5 => absurd h1 h5)
  refine j_iload2 16 dX11_ofHeir_15 rfl ?_
  refine j_tabIn 148 dX11_ofHeir_16 (by decide) (by decide) rfl rfl ?_
  refine j_aload0 149 dX11_ofHeir_148 rfl ?_
  refine j_getR 152 dX11_ofHeir_149 rfl fl_X11_35 rfl rfl ?_
  refine j_iload1 153 dX11_ofHeir_152 rfl ?_
  refine j_aload0 154 dX11_ofHeir_153 rfl ?_
  refine j_getR 157 dX11_ofHeir_154 rfl fl_X11_35 rfl rfl ?_
  refine j_iload1 158 dX11_ofHeir_157 rfl ?_
  refine j_vi1f 161 dX11_ofHeir_158 rfl rfl cl_X11_149 rfl rfl (c_isDust_9 m h hh) ?_
  refine j_if_eq_bz 176 164 dX11_ofHeir_161 rfl rfl (fun h161 => ?_) (fun h161 => ?_)
  · obtain ⟨j, hj, ej⟩ := x2
    refine j_aload0 177 dX11_ofHeir_176 rfl ?_
    refine j_getR 180 dX11_ofHeir_177 rfl fl_X11_35 rfl rfl ?_
    refine j_getR 183 dX11_ofHeir_180 rfl fl_X11_133 rfl rfl ?_
    refine j_iload1 184 dX11_ofHeir_183 rfl ?_
    refine j_iald 185 _ rfl hh dX11_ofHeir_184 rfl rfl ?_
    try refine j_top (f2.trans ej) ?_
    refine j_vi2f 188 dX11_ofHeir_185 rfl rfl cl_X11_152 rfl rfl (c_shinesOf_9 m h (kN d h) j hh hk hj ek) ?_
    refine j_iret dX11_ofHeir_188 rfl ?_
    first | exact rf_e (by have ej : hf d h 4 = nI j := ej; have q : hf d h 3 = 0 := (by rw [← f3]; exact h161); rw [ts j hj, t13, f1]; unfold sunM; rw [if_pos q, ej, nI_clamp (by omega)]) | exact rf_e (by have ej : hf d h 2 = nI j := ej; have q : ¬ hf d h 3 = 0 := (by rw [← f3]; exact h161); rw [ts j hj, t13, f1]; unfold sunM; rw [if_neg q, ej, nI_clamp (by omega)])
  · obtain ⟨j, hj, ej⟩ := x4 (by show hf d h 3 = 0; rw [← f3]; exact h161)
    refine j_aload0 165 dX11_ofHeir_164 rfl ?_
    refine j_getR 168 dX11_ofHeir_165 rfl fl_X11_35 rfl rfl ?_
    refine j_getR 171 dX11_ofHeir_168 rfl fl_X11_139 rfl rfl ?_
    refine j_iload1 172 dX11_ofHeir_171 rfl ?_
    refine j_iald 173 _ rfl hh dX11_ofHeir_172 rfl rfl ?_
    refine j_top (f4.trans ej) ?_
    refine j_goto 185 dX11_ofHeir_173 rfl ?_
    try refine j_top (f2.trans ej) ?_
    refine j_vi2f 188 dX11_ofHeir_185 rfl rfl cl_X11_152 rfl rfl (c_shinesOf_9 m h (kN d h) j hh hk hj ek) ?_
    refine j_iret dX11_ofHeir_188 rfl ?_
    first | exact rf_e (by have ej : hf d h 4 = nI j := ej; have q : hf d h 3 = 0 := (by rw [← f3]; exact h161); rw [ts j hj, t13, f1]; unfold sunM; rw [if_pos q, ej, nI_clamp (by omega)]) | exact rf_e (by have ej : hf d h 2 = nI j := ej; have q : ¬ hf d h 3 = 0 := (by rw [← f3]; exact h161); rw [ts j hj, t13, f1]; unfold sunM; rw [if_neg q, ej, nI_clamp (by omega)])
set_option maxRecDepth 100000 in
theorem p_ofHeir7 (m : Mem) (d : Nat → Int32) (wf : WF d) (hm : m 69 = d) (hdy : nb (d 1) 20000) (h : Nat) (hh : h < 8) (h1 : 0 ≤ nI h ∧ nI h ≤ m 69 0 - 1) : JM l g 4 mX12_ofHeir [rf g 68, .int (nI h), .int 7] m (RF (some (.int (shF (kN d h) (sunM d h) (hf d h 1) (d 1)))) m) := by
  refine JM_of (ls := [some (rf g 68), some (.int (nI h)), some (.int 7)]) pn_X12 rfl rfl ?_
  subst hm
  obtain ⟨x0, x1, x2, x3, x4, x5, x6⟩ := id (wf.hw hh)
  refine j_aload0 1 dX12_ofHeir_0 rfl ?_
  refine j_iload1 2 dX12_ofHeir_1 rfl ?_
  refine j_vi1f 5 dX12_ofHeir_2 rfl rfl cl_X12_199 rfl rfl (c_misHeir m _) ?_
  refine j_if_eq_bz 20 8 dX12_ofHeir_5 rfl rfl (fun h5 => absurd h1 h5) (fun h5 => ?_)
  refine j_iload2 9 dX12_ofHeir_8 rfl ?_
  refine j_i2l 10 dX12_ofHeir_9 rfl ?_
  refine j_lconst 11 (v := 0) dX12_ofHeir_10 rfl rfl ?_
  refine j_ldc2 14 dX12_ofHeir_11 rfl kl_X12_177 ?_
  refine j_st3f 17 dX12_ofHeir_14 rfl rfl cl_X12_47 rfl (c_in m _ 0 9) ?_
  refine j_if_ne_bz 26 20 dX12_ofHeir_17 rfl rfl (fun h17 => ?_) (fun h17 => absurd (by decide) h17)
  refine j_iload2 27 dX12_ofHeir_26 rfl ?_
  refine j_tabIn 68 dX12_ofHeir_27 (by decide) (by decide) rfl rfl ?_
  refine j_aload0 69 dX12_ofHeir_68 rfl ?_
  refine j_iload1 70 dX12_ofHeir_69 rfl ?_
  refine j_aload0 71 dX12_ofHeir_70 rfl ?_
  refine j_iload1 72 dX12_ofHeir_71 rfl ?_
  refine j_vi1f 75 dX12_ofHeir_72 rfl rfl cl_X12_152 rfl rfl (c_msunOf m h hh x2 x4) ?_
  refine j_vi2f 78 dX12_ofHeir_75 rfl rfl cl_X12_167 rfl rfl (c_mshines m h _ hh x0 (sun_nb wf hh) hdy) ?_
  refine j_iret dX12_ofHeir_78 rfl ?_
  exact ⟨rfl, rfl⟩
set_option maxRecDepth 100000 in
theorem o_ofHeir8 (m : Mem) (d : Nat → Int32) (wf : WF d) (hT : TR 9 m d) (h : Nat) (hh : h < 8) (h1 : 0 ≤ nI h ∧ nI h < m 9 9 ∧ nI h < 8) : JM l g 4 mX11_ofHeir [rf g 0, .int (nI h), .int 8] m (RF (some (.int (neF (kN d h) (hf d h 1)))) m) := by
  refine JM_of (ls := [some (rf g 0), some (.int (nI h)), some (.int 8)]) pn_X11 rfl rfl ?_
  obtain ⟨x0, x1, x2, x3, x4, x5, x6⟩ := wf.hw hh
  obtain ⟨t9, t10, t11, t12, t13, ts, tt, th⟩ := hT
  have f0 : m 12 h = hf d h 0 := th h hh 0 (by decide)
  have f1 : m 13 h = hf d h 1 := th h hh 1 (by decide)
  have f2 : m 14 h = hf d h 2 := th h hh 2 (by decide)
  have f3 : m 15 h = hf d h 3 := th h hh 3 (by decide)
  have f4 : m 16 h = hf d h 4 := th h hh 4 (by decide)
  have f5 : m 17 h = hf d h 5 := th h hh 5 (by decide)
  have ek : m 12 h = nI (kN d h) := f0.trans (nb_cl x0 (by decide)).2
  have hk : kN d h < 7 := (nb_cl x0 (by decide)).1
  have ts : ∀ i, i < 16 → m 10 i = d (8 + i) := ts
  refine j_aload0 1 dX11_ofHeir_0 rfl ?_
  refine j_iload1 2 dX11_ofHeir_1 rfl ?_
  refine j_vi1f 5 dX11_ofHeir_2 rfl rfl cl_X11_124 rfl rfl (c_isHeir m _) ?_
  refine j_if_ne_bz 15 8 dX11_ofHeir_5 rfl rfl (fun h5 => ?_) (fun h5 => absurd h1 h5)
  refine j_iload2 16 dX11_ofHeir_15 rfl ?_
  refine j_tabIn 189 dX11_ofHeir_16 (by decide) (by decide) rfl rfl ?_
  refine j_aload0 190 dX11_ofHeir_189 rfl ?_
  refine j_getR 193 dX11_ofHeir_190 rfl fl_X11_35 rfl rfl ?_
  refine j_iload1 194 dX11_ofHeir_193 rfl ?_
  refine j_vi1f 197 dX11_ofHeir_194 rfl rfl cl_X11_155 rfl rfl (c_needsOf_9 m h (kN d h) hh hk ek) ?_
  refine j_iret dX11_ofHeir_197 rfl ?_
  exact rf_e (by rw [f1])
set_option maxRecDepth 100000 in
theorem p_ofHeir8 (m : Mem) (d : Nat → Int32) (wf : WF d) (hm : m 69 = d) (hdy : nb (d 1) 20000) (h : Nat) (hh : h < 8) (h1 : 0 ≤ nI h ∧ nI h ≤ m 69 0 - 1) : JM l g 4 mX12_ofHeir [rf g 68, .int (nI h), .int 8] m (RF (some (.int (neF (kN d h) (hf d h 1)))) m) := by
  refine JM_of (ls := [some (rf g 68), some (.int (nI h)), some (.int 8)]) pn_X12 rfl rfl ?_
  subst hm
  obtain ⟨x0, x1, x2, x3, x4, x5, x6⟩ := id (wf.hw hh)
  refine j_aload0 1 dX12_ofHeir_0 rfl ?_
  refine j_iload1 2 dX12_ofHeir_1 rfl ?_
  refine j_vi1f 5 dX12_ofHeir_2 rfl rfl cl_X12_199 rfl rfl (c_misHeir m _) ?_
  refine j_if_eq_bz 20 8 dX12_ofHeir_5 rfl rfl (fun h5 => absurd h1 h5) (fun h5 => ?_)
  refine j_iload2 9 dX12_ofHeir_8 rfl ?_
  refine j_i2l 10 dX12_ofHeir_9 rfl ?_
  refine j_lconst 11 (v := 0) dX12_ofHeir_10 rfl rfl ?_
  refine j_ldc2 14 dX12_ofHeir_11 rfl kl_X12_177 ?_
  refine j_st3f 17 dX12_ofHeir_14 rfl rfl cl_X12_47 rfl (c_in m _ 0 9) ?_
  refine j_if_ne_bz 26 20 dX12_ofHeir_17 rfl rfl (fun h17 => ?_) (fun h17 => absurd (by decide) h17)
  refine j_iload2 27 dX12_ofHeir_26 rfl ?_
  refine j_tabIn 79 dX12_ofHeir_27 (by decide) (by decide) rfl rfl ?_
  refine j_aload0 80 dX12_ofHeir_79 rfl ?_
  refine j_iload1 81 dX12_ofHeir_80 rfl ?_
  refine j_vi1f 84 dX12_ofHeir_81 rfl rfl cl_X12_155 rfl rfl (c_mneeds m h hh x0) ?_
  refine j_iret dX12_ofHeir_84 rfl ?_
  exact ⟨rfl, rfl⟩
set_option maxRecDepth 100000 in
theorem o_ofHeir9 (m : Mem) (d : Nat → Int32) (wf : WF d) (hT : TR 9 m d) (h : Nat) (hh : h < 8) (h1 : 0 ≤ nI h ∧ nI h < m 9 9 ∧ nI h < 8) : JM l g 4 mX11_ofHeir [rf g 0, .int (nI h), .int 9] m (RF (some (.int (bz (contF d h)))) m) := by
  refine JM_of (ls := [some (rf g 0), some (.int (nI h)), some (.int 9)]) pn_X11 rfl rfl ?_
  obtain ⟨x0, x1, x2, x3, x4, x5, x6⟩ := wf.hw hh
  obtain ⟨t9, t10, t11, t12, t13, ts, tt, th⟩ := hT
  have f0 : m 12 h = hf d h 0 := th h hh 0 (by decide)
  have f1 : m 13 h = hf d h 1 := th h hh 1 (by decide)
  have f2 : m 14 h = hf d h 2 := th h hh 2 (by decide)
  have f3 : m 15 h = hf d h 3 := th h hh 3 (by decide)
  have f4 : m 16 h = hf d h 4 := th h hh 4 (by decide)
  have f5 : m 17 h = hf d h 5 := th h hh 5 (by decide)
  have ek : m 12 h = nI (kN d h) := f0.trans (nb_cl x0 (by decide)).2
  have hk : kN d h < 7 := (nb_cl x0 (by decide)).1
  have ts : ∀ i, i < 16 → m 10 i = d (8 + i) := ts
  refine j_aload0 1 dX11_ofHeir_0 rfl ?_
  refine j_iload1 2 dX11_ofHeir_1 rfl ?_
  refine j_vi1f 5 dX11_ofHeir_2 rfl rfl cl_X11_124 rfl rfl (c_isHeir m _) ?_
  refine j_if_ne_bz 15 8 dX11_ofHeir_5 rfl rfl (fun h5 => ?_) (fun h5 => absurd h1 h5)
  refine j_iload2 16 dX11_ofHeir_15 rfl ?_
  refine j_tabIn 198 dX11_ofHeir_16 (by decide) (by decide) rfl rfl ?_
  refine j_aload0 199 dX11_ofHeir_198 rfl ?_
  refine j_getR 202 dX11_ofHeir_199 rfl fl_X11_35 rfl rfl ?_
  refine j_iload1 203 dX11_ofHeir_202 rfl ?_
  refine j_vi1f 206 dX11_ofHeir_203 rfl rfl cl_X11_158 rfl rfl (c_isContent_9 m h (kN d h) hh hk ek (by rw [f3, f4]; exact x4)) ?_
  refine j_if_eq_bz 213 209 dX11_ofHeir_206 rfl rfl (fun h206 => ?_) (fun h206 => ?_)
  · refine j_iconst 214 (v := 0) dX11_ofHeir_213 rfl rfl ?_
    refine j_iret dX11_ofHeir_214 rfl ?_
    first | exact rf_f (fun q => h206 ⟨by rw [f3]; exact q.1, q.2.elim (fun z => Or.inl (by rw [f4, f2]; exact z)) (fun z => Or.inr (by rw [f1, f4, ts _ (nb_cl (x4 q.1) (by decide)).1]; exact z))⟩) | exact rf_t ⟨by rw [← f3]; exact h206.1, h206.2.elim (fun z => Or.inl (by rw [← f4, ← f2]; exact z)) (fun z => Or.inr (by have q : hf d h 3 = 0 := (by rw [← f3]; exact h206.1); rw [f1, f4, ts _ (nb_cl (x4 q) (by decide)).1] at z; exact z))⟩
  · refine j_iconst 210 (v := 1) dX11_ofHeir_209 rfl rfl ?_
    refine j_goto 214 dX11_ofHeir_210 rfl ?_
    refine j_iret dX11_ofHeir_214 rfl ?_
    first | exact rf_f (fun q => h206 ⟨by rw [f3]; exact q.1, q.2.elim (fun z => Or.inl (by rw [f4, f2]; exact z)) (fun z => Or.inr (by rw [f1, f4, ts _ (nb_cl (x4 q.1) (by decide)).1]; exact z))⟩) | exact rf_t ⟨by rw [← f3]; exact h206.1, h206.2.elim (fun z => Or.inl (by rw [← f4, ← f2]; exact z)) (fun z => Or.inr (by have q : hf d h 3 = 0 := (by rw [← f3]; exact h206.1); rw [f1, f4, ts _ (nb_cl (x4 q) (by decide)).1] at z; exact z))⟩
set_option maxRecDepth 100000 in
theorem p_ofHeir9 (m : Mem) (d : Nat → Int32) (wf : WF d) (hm : m 69 = d) (hdy : nb (d 1) 20000) (h : Nat) (hh : h < 8) (h1 : 0 ≤ nI h ∧ nI h ≤ m 69 0 - 1) : JM l g 4 mX12_ofHeir [rf g 68, .int (nI h), .int 9] m (RF (some (.int (bz (contF d h)))) m) := by
  refine JM_of (ls := [some (rf g 68), some (.int (nI h)), some (.int 9)]) pn_X12 rfl rfl ?_
  subst hm
  obtain ⟨x0, x1, x2, x3, x4, x5, x6⟩ := id (wf.hw hh)
  refine j_aload0 1 dX12_ofHeir_0 rfl ?_
  refine j_iload1 2 dX12_ofHeir_1 rfl ?_
  refine j_vi1f 5 dX12_ofHeir_2 rfl rfl cl_X12_199 rfl rfl (c_misHeir m _) ?_
  refine j_if_eq_bz 20 8 dX12_ofHeir_5 rfl rfl (fun h5 => absurd h1 h5) (fun h5 => ?_)
  refine j_iload2 9 dX12_ofHeir_8 rfl ?_
  refine j_i2l 10 dX12_ofHeir_9 rfl ?_
  refine j_lconst 11 (v := 0) dX12_ofHeir_10 rfl rfl ?_
  refine j_ldc2 14 dX12_ofHeir_11 rfl kl_X12_177 ?_
  refine j_st3f 17 dX12_ofHeir_14 rfl rfl cl_X12_47 rfl (c_in m _ 0 9) ?_
  refine j_if_ne_bz 26 20 dX12_ofHeir_17 rfl rfl (fun h17 => ?_) (fun h17 => absurd (by decide) h17)
  refine j_iload2 27 dX12_ofHeir_26 rfl ?_
  refine j_tabIn 85 dX12_ofHeir_27 (by decide) (by decide) rfl rfl ?_
  refine j_aload0 86 dX12_ofHeir_85 rfl ?_
  refine j_iload1 87 dX12_ofHeir_86 rfl ?_
  refine j_vi1f 90 dX12_ofHeir_87 rfl rfl cl_X12_202 rfl rfl (c_misContent m h hh (wf.hw hh)) ?_
  refine j_if_eq_bz 97 93 dX12_ofHeir_90 rfl rfl (fun h90 => ?_) (fun h90 => ?_)
  · refine j_iconst 98 (v := 0) dX12_ofHeir_97 rfl rfl ?_
    refine j_iret dX12_ofHeir_98 rfl ?_
    first | exact rf_f h90 | exact rf_t h90
  · refine j_iconst 94 (v := 1) dX12_ofHeir_93 rfl rfl ?_
    refine j_goto 98 dX12_ofHeir_94 rfl ?_
    refine j_iret dX12_ofHeir_98 rfl ?_
    first | exact rf_f h90 | exact rf_t h90
theorem op_ofHeir {m : Mem} (I : INV m) (h w : Int32) : OPr l g mX11_ofHeir mX12_ofHeir [.int h, .int w] m := by
  obtain ⟨⟨wf, hd, hT, hP⟩, -⟩ := id I
  by_cases h1 : 0 ≤ h ∧ h < m 69 0 ∧ h < 8
  · by_cases c : 0 ≤ w ∧ w ≤ nI 9
    · obtain ⟨j, hj, rfl⟩ := (isH_c wf).mp h1
      have hh : j < 8 := by have := wf.n.1; omega
      have hC : 0 ≤ nI j ∧ nI j < m 9 9 ∧ nI j < 8 := by rw [hT.1]; exact h1
      have hM : 0 ≤ nI j ∧ nI j ≤ m 69 0 - 1 := (isH_m wf).mpr ⟨j, hj, rfl⟩
      obtain ⟨k, hk, rfl⟩ := (rngN 9 (by decide)).mp c
      rcases (show k = 0 ∨ k = 1 ∨ k = 2 ∨ k = 3 ∨ k = 4 ∨ k = 5 ∨ k = 6 ∨ k = 7 ∨ k = 8 ∨ k = 9 by omega) with rfl | rfl | rfl | rfl | rfl | rfl | rfl | rfl | rfl | rfl
      · exact ⟨4, 4, _, _, by decide, by decide, o_ofHeir0 m (m 69) wf hT j hh hC, fun m' e => by subst e; exact (p_ofHeir0 (l := l) (g := g) m' (m' 69) wf rfl (nb_up hd (by decide)) j hh hM).mono (RS_w (fun m2 q => by subst q; exact I))⟩
      · exact ⟨4, 4, _, _, by decide, by decide, o_ofHeir1 m (m 69) wf hT j hh hC, fun m' e => by subst e; exact (p_ofHeir1 (l := l) (g := g) m' (m' 69) wf rfl (nb_up hd (by decide)) j hh hM).mono (RS_w (fun m2 q => by subst q; exact I))⟩
      · exact ⟨4, 4, _, _, by decide, by decide, o_ofHeir2 m (m 69) wf hT j hh hC, fun m' e => by subst e; exact (p_ofHeir2 (l := l) (g := g) m' (m' 69) wf rfl (nb_up hd (by decide)) j hh hM).mono (RS_w (fun m2 q => by subst q; exact I))⟩
      · exact ⟨4, 4, _, _, by decide, by decide, o_ofHeir3 m (m 69) wf hT j hh hC, fun m' e => by subst e; exact (p_ofHeir3 (l := l) (g := g) m' (m' 69) wf rfl (nb_up hd (by decide)) j hh hM).mono (RS_w (fun m2 q => by subst q; exact I))⟩
      · exact ⟨4, 4, _, _, by decide, by decide, o_ofHeir4 m (m 69) wf hT j hh hC, fun m' e => by subst e; exact (p_ofHeir4 (l := l) (g := g) m' (m' 69) wf rfl (nb_up hd (by decide)) j hh hM).mono (RS_w (fun m2 q => by subst q; exact I))⟩
      · exact ⟨4, 4, _, _, by decide, by decide, o_ofHeir5 m (m 69) wf hT j hh hC, fun m' e => by subst e; exact (p_ofHeir5 (l := l) (g := g) m' (m' 69) wf rfl (nb_up hd (by decide)) j hh hM).mono (RS_w (fun m2 q => by subst q; exact I))⟩
      · exact ⟨4, 4, _, _, by decide, by decide, o_ofHeir6 m (m 69) wf hT j hh hC, fun m' e => by subst e; exact (p_ofHeir6 (l := l) (g := g) m' (m' 69) wf rfl (nb_up hd (by decide)) j hh hM).mono (RS_w (fun m2 q => by subst q; exact I))⟩
      · exact ⟨4, 4, _, _, by decide, by decide, o_ofHeir7 m (m 69) wf hT j hh hC, fun m' e => by subst e; exact (p_ofHeir7 (l := l) (g := g) m' (m' 69) wf rfl (nb_up hd (by decide)) j hh hM).mono (RS_w (fun m2 q => by subst q; exact I))⟩
      · exact ⟨4, 4, _, _, by decide, by decide, o_ofHeir8 m (m 69) wf hT j hh hC, fun m' e => by subst e; exact (p_ofHeir8 (l := l) (g := g) m' (m' 69) wf rfl (nb_up hd (by decide)) j hh hM).mono (RS_w (fun m2 q => by subst q; exact I))⟩
      · exact ⟨4, 4, _, _, by decide, by decide, o_ofHeir9 m (m 69) wf hT j hh hC, fun m' e => by subst e; exact (p_ofHeir9 (l := l) (g := g) m' (m' 69) wf rfl (nb_up hd (by decide)) j hh hM).mono (RS_w (fun m2 q => by subst q; exact I))⟩
    · exact OPr_err I (by decide) (by decide) (by decide) (e_ofHeirw m h w (by rw [hT.1]; exact h1) c) (f_ofHeir _ h w (fun q => c q.2))
  · exact OPr_err I (by decide) (by decide) (by decide) (e_ofHeirh m h w (by rw [hT.1]; exact h1)) (f_ofHeir _ h w (fun q => h1 ((isH_c wf).mpr ((isH_m wf).mp (by have := q.1; rw [errC_o (by decide)] at this; exact this)))))
end O5
