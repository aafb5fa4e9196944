section O14
variable {l : Launch} {g : Gv}
set_option maxRecDepth 100000 in
theorem lp_sum10 {Q : Option Value → Mem → Prop} (m : Mem) (n : Nat) (hn : n ≤ 16) (hq : Q (some (.int (sumF (m 10) n))) m) : ∀ (k i : Nat), i + k = n → J l g 0 mX11_sumOf 4 [some (rf g 10), some (.int (nI n)), some (.int (sumF (m 10) i)), some (.int (nI i))] [] m Q := by
  intro k
  induction k with
  | zero =>
    intro i e1
    have e1 : i = n := by omega
    subst e1
    refine j_iload3 5 dX11_sumOf_4 rfl ?_
    refine j_iload1 6 dX11_sumOf_5 rfl ?_
    refine j_cmp_ge 27 9 dX11_sumOf_6 rfl rfl (fun h6 => ?_) (fun h6 => absurd (Int32.le_refl _) h6)
    refine j_iload2 28 dX11_sumOf_27 rfl ?_
    refine j_iret dX11_sumOf_28 rfl ?_
    exact hq
  | succ k ih =>
    intro i e1
    have e2 : nI i + 1 = nI (i + 1) := nI_1 i
    refine j_iload3 5 dX11_sumOf_4 rfl ?_
    refine j_iload1 6 dX11_sumOf_5 rfl ?_
    refine j_cmp_ge 27 9 dX11_sumOf_6 rfl rfl (fun h6 => absurd h6 (nI_ge (a := i) (b := n) (by omega) (by omega))) (fun h6 => ?_)
    refine j_iload3 10 dX11_sumOf_9 rfl ?_
    refine j_aload0 11 dX11_sumOf_10 rfl ?_
    refine j_alen 12 dX11_sumOf_11 rfl rfl ?_
    refine j_cmp_ge 27 15 dX11_sumOf_12 rfl rfl (fun h12 => absurd h12 (show ¬ (16 : Int32) ≤ nI i from nI_ge (a := i) (b := 16) (by omega) (by decide))) (fun h12 => ?_)
    refine j_iload2 16 dX11_sumOf_15 rfl ?_
    refine j_aload0 17 dX11_sumOf_16 rfl ?_
    refine j_iload3 18 dX11_sumOf_17 rfl ?_
    refine j_iald 19 i rfl (show i < 16 by omega) dX11_sumOf_18 rfl rfl ?_
    refine j_iadd 20 dX11_sumOf_19 rfl ?_
    refine j_istore2 21 dX11_sumOf_20 rfl rfl rfl ?_
    refine j_iinc3 24 (1) dX11_sumOf_21 rfl rfl rfl rfl ?_
    refine j_goto 4 dX11_sumOf_24 rfl ?_
    rw [e2]
    exact ih (i + 1) (by omega)
set_option maxRecDepth 100000 in
theorem c_sum10 (m : Mem) (n : Nat) (hn : n ≤ 16) : JM l g 0 mX11_sumOf [rf g 10, .int (nI n)] m (RF (some (.int (sumF (m 10) n))) m) := by
  refine JM_of (ls := [some (rf g 10), some (.int (nI n)), none, none]) pn_X11 rfl rfl ?_
  refine j_iconst 1 (v := 0) dX11_sumOf_0 rfl rfl ?_
  refine j_istore2 2 dX11_sumOf_1 rfl rfl rfl ?_
  refine j_iconst 3 (v := 0) dX11_sumOf_2 rfl rfl ?_
  refine j_istore3 4 dX11_sumOf_3 rfl rfl rfl ?_
  exact lp_sum10 m n hn ⟨rfl, rfl⟩ n 0 (Nat.zero_add _)
set_option maxRecDepth 100000 in
theorem lp_sum17 {Q : Option Value → Mem → Prop} (m : Mem) (n : Nat) (hn : n ≤ 8) (hq : Q (some (.int (sumF (m 17) n))) m) : ∀ (k i : Nat), i + k = n → J l g 0 mX11_sumOf 4 [some (rf g 17), some (.int (nI n)), some (.int (sumF (m 17) i)), some (.int (nI i))] [] m Q := by
  intro k
  induction k with
  | zero =>
    intro i e1
    have e1 : i = n := by omega
    subst e1
    refine j_iload3 5 dX11_sumOf_4 rfl ?_
    refine j_iload1 6 dX11_sumOf_5 rfl ?_
    refine j_cmp_ge 27 9 dX11_sumOf_6 rfl rfl (fun h6 => ?_) (fun h6 => absurd (Int32.le_refl _) h6)
    refine j_iload2 28 dX11_sumOf_27 rfl ?_
    refine j_iret dX11_sumOf_28 rfl ?_
    exact hq
  | succ k ih =>
    intro i e1
    have e2 : nI i + 1 = nI (i + 1) := nI_1 i
    refine j_iload3 5 dX11_sumOf_4 rfl ?_
    refine j_iload1 6 dX11_sumOf_5 rfl ?_
    refine j_cmp_ge 27 9 dX11_sumOf_6 rfl rfl (fun h6 => absurd h6 (nI_ge (a := i) (b := n) (by omega) (by omega))) (fun h6 => ?_)
    refine j_iload3 10 dX11_sumOf_9 rfl ?_
    refine j_aload0 11 dX11_sumOf_10 rfl ?_
    refine j_alen 12 dX11_sumOf_11 rfl rfl ?_
    refine j_cmp_ge 27 15 dX11_sumOf_12 rfl rfl (fun h12 => absurd h12 (show ¬ (8 : Int32) ≤ nI i from nI_ge (a := i) (b := 8) (by omega) (by decide))) (fun h12 => ?_)
    refine j_iload2 16 dX11_sumOf_15 rfl ?_
    refine j_aload0 17 dX11_sumOf_16 rfl ?_
    refine j_iload3 18 dX11_sumOf_17 rfl ?_
    refine j_iald 19 i rfl (show i < 8 by omega) dX11_sumOf_18 rfl rfl ?_
    refine j_iadd 20 dX11_sumOf_19 rfl ?_
    refine j_istore2 21 dX11_sumOf_20 rfl rfl rfl ?_
    refine j_iinc3 24 (1) dX11_sumOf_21 rfl rfl rfl rfl ?_
    refine j_goto 4 dX11_sumOf_24 rfl ?_
    rw [e2]
    exact ih (i + 1) (by omega)
set_option maxRecDepth 100000 in
theorem c_sum17 (m : Mem) (n : Nat) (hn : n ≤ 8) : JM l g 0 mX11_sumOf [rf g 17, .int (nI n)] m (RF (some (.int (sumF (m 17) n))) m) := by
  refine JM_of (ls := [some (rf g 17), some (.int (nI n)), none, none]) pn_X11 rfl rfl ?_
  refine j_iconst 1 (v := 0) dX11_sumOf_0 rfl rfl ?_
  refine j_istore2 2 dX11_sumOf_1 rfl rfl rfl ?_
  refine j_iconst 3 (v := 0) dX11_sumOf_2 rfl rfl ?_
  refine j_istore3 4 dX11_sumOf_3 rfl rfl rfl ?_
  exact lp_sum17 m n hn ⟨rfl, rfl⟩ n 0 (Nat.zero_add _)
set_option maxRecDepth 100000 in
theorem lp_msum {Q : Option Value → Mem → Prop} (m : Mem) (a n t : Nat) (hb : ∀ i, i < n → a + t * i < 260) (hn : n < 2 ^ 31) (hq : Q (some (.int (sumF (fun i => m 69 (a + t * i)) n))) m) : ∀ (k i : Nat), i + k = n → J l g 0 mX12_sumOf 6 [some (rf g 68), some (.int (nI a)), some (.int (nI n)), some (.int (nI t)), some (.int (sumF (fun i => m 69 (a + t * i)) i)), some (.int (nI i))] [] m Q := by
  intro k
  induction k with
  | zero =>
    intro i e1
    have e1 : i = n := by omega
    subst e1
    refine j_iload5 8 dX12_sumOf_6 rfl ?_
    refine j_iload2 9 dX12_sumOf_8 rfl ?_
    refine j_cmp_ge 34 12 dX12_sumOf_9 rfl rfl (fun h9 => ?_) (fun h9 => absurd (Int32.le_refl _) h9)
    refine j_iload4 36 dX12_sumOf_34 rfl ?_
    refine j_iret dX12_sumOf_36 rfl ?_
    exact hq
  | succ k ih =>
    intro i e1
    have e2 : nI i + 1 = nI (i + 1) := nI_1 i
    refine j_iload5 8 dX12_sumOf_6 rfl ?_
    refine j_iload2 9 dX12_sumOf_8 rfl ?_
    refine j_cmp_ge 34 12 dX12_sumOf_9 rfl rfl (fun h9 => absurd h9 (nI_ge (a := i) (b := n) (by omega) (by omega))) (fun h9 => ?_)
    refine j_iload4 14 dX12_sumOf_12 rfl ?_
    refine j_aload0 15 dX12_sumOf_14 rfl ?_
    refine j_getR 18 dX12_sumOf_15 rfl fl_X12_7 rfl rfl ?_
    refine j_iload1 19 dX12_sumOf_18 rfl ?_
    refine j_iload3 20 dX12_sumOf_19 rfl ?_
    refine j_iload5 22 dX12_sumOf_20 rfl ?_
    refine j_imulN 23 dX12_sumOf_22 rfl ?_
    refine j_iaddN 24 dX12_sumOf_23 rfl ?_
    refine j_iald 25 _ rfl (hb i (by omega)) dX12_sumOf_24 rfl rfl ?_
    refine j_iadd 26 dX12_sumOf_25 rfl ?_
    refine j_istore4 28 dX12_sumOf_26 rfl rfl rfl ?_
    refine j_iinc5 31 (1) dX12_sumOf_28 rfl rfl rfl rfl ?_
    refine j_goto 6 dX12_sumOf_31 rfl ?_
    rw [e2]
    exact ih (i + 1) (by omega)
set_option maxRecDepth 100000 in
theorem c_msum (m : Mem) (a n t : Nat) (hb : ∀ i, i < n → a + t * i < 260) (hn : n < 2 ^ 31) : JM l g 0 mX12_sumOf [rf g 68, .int (nI a), .int (nI n), .int (nI t)] m (RF (some (.int (sumF (fun i => m 69 (a + t * i)) n))) m) := by
  refine JM_of (ls := [some (rf g 68), some (.int (nI a)), some (.int (nI n)), some (.int (nI t)), none, none]) pn_X12 rfl rfl ?_
  refine j_iconst 1 (v := 0) dX12_sumOf_0 rfl rfl ?_
  refine j_istore4 3 dX12_sumOf_1 rfl rfl rfl ?_
  refine j_iconst 4 (v := 0) dX12_sumOf_3 rfl rfl ?_
  refine j_istore5 6 dX12_sumOf_4 rfl rfl rfl ?_
  exact lp_msum m a n t hb hn ⟨rfl, rfl⟩ n 0 (Nat.zero_add _)
set_option maxRecDepth 100000 in
theorem e_count (m : Mem) (w : Int32) (c : ¬ (0 ≤ w ∧ w ≤ nI 10)) : JM l g 2 mX11_count [rf g 0, .int w] m (RF (some (.int (-1000000001))) (errC 1 m)) := by
  refine JM_of (ls := [some (rf g 0), some (.int w)]) pn_X11 rfl rfl ?_
  refine j_iload1 1 dX11_count_0 rfl ?_
  refine j_tabOut 163 dX11_count_1 (outN (by decide) c) rfl ?_
  refine j_aload0 164 dX11_count_163 rfl ?_
  refine j_ldc 166 dX11_count_164 rfl kc_X11_81 ?_
  refine j_vi1f 169 dX11_count_166 rfl rfl cl_X11_82 rfl rfl (c_err1 m) ?_
  refine j_iret dX11_count_169 rfl ?_
  exact ⟨rfl, rfl⟩
set_option maxRecDepth 100000 in
theorem f_count (m : Mem) (w : Int32) (c : ¬ (0 ≤ w ∧ w ≤ nI 10)) : JM l g 2 mX12_count [rf g 68, .int w] m (RF (some (.int (-1000000001))) (errM 1 m)) := by
  refine JM_of (ls := [some (rf g 68), some (.int w)]) pn_X12 rfl rfl ?_
  refine j_iload1 1 dX12_count_0 rfl ?_
  refine j_tabOut 120 dX12_count_1 (outN (by decide) c) rfl ?_
  refine j_aload0 121 dX12_count_120 rfl ?_
  refine j_iconst 122 (v := 1) dX12_count_121 rfl rfl ?_
  refine j_vi1f 125 dX12_count_122 rfl rfl cl_X12_126 rfl rfl (c_finds1 m) ?_
  refine j_iret dX12_count_125 rfl ?_
  exact ⟨rfl, rfl⟩
set_option maxRecDepth 100000 in
theorem o_count0 (m : Mem) (d : Nat → Int32) (w : WF d) (hT : TR 9 m d) : JM l g 2 mX11_count [rf g 0, .int (nI 0)] m (RF (some (.int (m 9 9))) m) := by
  refine JM_of (ls := [some (rf g 0), some (.int (nI 0))]) pn_X11 rfl rfl ?_
  have wn := w.n
  have e9 : m 9 9 = nI (hn d) := hT.1.trans wn.2
  refine j_iload1 1 dX11_count_0 rfl ?_
  refine j_tabIn 60 dX11_count_1 (by decide) (by decide) rfl rfl ?_
  refine j_aload0 61 dX11_count_60 rfl ?_
  refine j_getR 64 dX11_count_61 rfl fl_X11_35 rfl rfl ?_
  refine j_getI 67 dX11_count_64 rfl fl_X11_116 rfl rfl ?_
  refine j_iret dX11_count_67 rfl ?_
  exact ⟨rfl, rfl⟩
set_option maxRecDepth 100000 in
theorem p_count0 (m : Mem) (w : WF (m 69)) : JM l g 2 mX12_count [rf g 68, .int (nI 0)] m (RF (some (.int (m 69 0))) m) := by
  refine JM_of (ls := [some (rf g 68), some (.int (nI 0))]) pn_X12 rfl rfl ?_
  have wn := w.n
  refine j_iload1 1 dX12_count_0 rfl ?_
  refine j_tabIn 60 dX12_count_1 (by decide) (by decide) rfl rfl ?_
  refine j_aload0 61 dX12_count_60 rfl ?_
  refine j_getR 64 dX12_count_61 rfl fl_X12_7 rfl rfl ?_
  refine j_iload1 65 dX12_count_64 rfl ?_
  refine j_iald 66 0 rfl (by decide) dX12_count_65 rfl rfl ?_
  refine j_iret dX12_count_66 rfl ?_
  exact ⟨rfl, rfl⟩
set_option maxRecDepth 100000 in
theorem o_count1 (m : Mem) (d : Nat → Int32) (w : WF d) (hT : TR 9 m d) : JM l g 2 mX11_count [rf g 0, .int (nI 1)] m (RF (some (.int (m 9 13))) m) := by
  refine JM_of (ls := [some (rf g 0), some (.int (nI 1))]) pn_X11 rfl rfl ?_
  have wn := w.n
  have e9 : m 9 9 = nI (hn d) := hT.1.trans wn.2
  refine j_iload1 1 dX11_count_0 rfl ?_
  refine j_tabIn 68 dX11_count_1 (by decide) (by decide) rfl rfl ?_
  refine j_aload0 69 dX11_count_68 rfl ?_
  refine j_getR 72 dX11_count_69 rfl fl_X11_35 rfl rfl ?_
  refine j_getI 75 dX11_count_72 rfl fl_X11_202 rfl rfl ?_
  refine j_iret dX11_count_75 rfl ?_
  exact ⟨rfl, rfl⟩
set_option maxRecDepth 100000 in
theorem p_count1 (m : Mem) (w : WF (m 69)) : JM l g 2 mX12_count [rf g 68, .int (nI 1)] m (RF (some (.int (m 69 1))) m) := by
  refine JM_of (ls := [some (rf g 68), some (.int (nI 1))]) pn_X12 rfl rfl ?_
  have wn := w.n
  refine j_iload1 1 dX12_count_0 rfl ?_
  refine j_tabIn 60 dX12_count_1 (by decide) (by decide) rfl rfl ?_
  refine j_aload0 61 dX12_count_60 rfl ?_
  refine j_getR 64 dX12_count_61 rfl fl_X12_7 rfl rfl ?_
  refine j_iload1 65 dX12_count_64 rfl ?_
  refine j_iald 66 1 rfl (by decide) dX12_count_65 rfl rfl ?_
  refine j_iret dX12_count_66 rfl ?_
  exact ⟨rfl, rfl⟩
set_option maxRecDepth 100000 in
theorem o_count2 (m : Mem) (d : Nat → Int32) (w : WF d) (hT : TR 9 m d) : JM l g 2 mX11_count [rf g 0, .int (nI 2)] m (RF (some (.int (m 9 10))) m) := by
  refine JM_of (ls := [some (rf g 0), some (.int (nI 2))]) pn_X11 rfl rfl ?_
  have wn := w.n
  have e9 : m 9 9 = nI (hn d) := hT.1.trans wn.2
  refine j_iload1 1 dX11_count_0 rfl ?_
  refine j_tabIn 76 dX11_count_1 (by decide) (by decide) rfl rfl ?_
  refine j_aload0 77 dX11_count_76 rfl ?_
  refine j_getR 80 dX11_count_77 rfl fl_X11_35 rfl rfl ?_
  refine j_getI 83 dX11_count_80 rfl fl_X11_102 rfl rfl ?_
  refine j_iret dX11_count_83 rfl ?_
  exact ⟨rfl, rfl⟩
set_option maxRecDepth 100000 in
theorem p_count2 (m : Mem) (w : WF (m 69)) : JM l g 2 mX12_count [rf g 68, .int (nI 2)] m (RF (some (.int (m 69 2))) m) := by
  refine JM_of (ls := [some (rf g 68), some (.int (nI 2))]) pn_X12 rfl rfl ?_
  have wn := w.n
  refine j_iload1 1 dX12_count_0 rfl ?_
  refine j_tabIn 60 dX12_count_1 (by decide) (by decide) rfl rfl ?_
  refine j_aload0 61 dX12_count_60 rfl ?_
  refine j_getR 64 dX12_count_61 rfl fl_X12_7 rfl rfl ?_
  refine j_iload1 65 dX12_count_64 rfl ?_
  refine j_iald 66 2 rfl (by decide) dX12_count_65 rfl rfl ?_
  refine j_iret dX12_count_66 rfl ?_
  exact ⟨rfl, rfl⟩
set_option maxRecDepth 100000 in
theorem o_count3 (m : Mem) (d : Nat → Int32) (w : WF d) (hT : TR 9 m d) : JM l g 2 mX11_count [rf g 0, .int (nI 3)] m (RF (some (.int (m 9 11))) m) := by
  refine JM_of (ls := [some (rf g 0), some (.int (nI 3))]) pn_X11 rfl rfl ?_
  have wn := w.n
  have e9 : m 9 9 = nI (hn d) := hT.1.trans wn.2
  refine j_iload1 1 dX11_count_0 rfl ?_
  refine j_tabIn 84 dX11_count_1 (by decide) (by decide) rfl rfl ?_
  refine j_aload0 85 dX11_count_84 rfl ?_
  refine j_getR 88 dX11_count_85 rfl fl_X11_35 rfl rfl ?_
  refine j_getI 91 dX11_count_88 rfl fl_X11_106 rfl rfl ?_
  refine j_iret dX11_count_91 rfl ?_
  exact ⟨rfl, rfl⟩
set_option maxRecDepth 100000 in
theorem p_count3 (m : Mem) (w : WF (m 69)) : JM l g 2 mX12_count [rf g 68, .int (nI 3)] m (RF (some (.int (m 69 3))) m) := by
  refine JM_of (ls := [some (rf g 68), some (.int (nI 3))]) pn_X12 rfl rfl ?_
  have wn := w.n
  refine j_iload1 1 dX12_count_0 rfl ?_
  refine j_tabIn 60 dX12_count_1 (by decide) (by decide) rfl rfl ?_
  refine j_aload0 61 dX12_count_60 rfl ?_
  refine j_getR 64 dX12_count_61 rfl fl_X12_7 rfl rfl ?_
  refine j_iload1 65 dX12_count_64 rfl ?_
  refine j_iald 66 3 rfl (by decide) dX12_count_65 rfl rfl ?_
  refine j_iret dX12_count_66 rfl ?_
  exact ⟨rfl, rfl⟩
set_option maxRecDepth 100000 in
theorem o_count4 (m : Mem) (d : Nat → Int32) (w : WF d) (hT : TR 9 m d) : JM l g 2 mX11_count [rf g 0, .int (nI 4)] m (RF (some (.int (m 9 12))) m) := by
  refine JM_of (ls := [some (rf g 0), some (.int (nI 4))]) pn_X11 rfl rfl ?_
  have wn := w.n
  have e9 : m 9 9 = nI (hn d) := hT.1.trans wn.2
  refine j_iload1 1 dX11_count_0 rfl ?_
  refine j_tabIn 92 dX11_count_1 (by decide) (by decide) rfl rfl ?_
  refine j_aload0 93 dX11_count_92 rfl ?_
  refine j_getR 96 dX11_count_93 rfl fl_X11_35 rfl rfl ?_
  refine j_getI 99 dX11_count_96 rfl fl_X11_110 rfl rfl ?_
  refine j_iret dX11_count_99 rfl ?_
  exact ⟨rfl, rfl⟩
set_option maxRecDepth 100000 in
theorem p_count4 (m : Mem) (w : WF (m 69)) : JM l g 2 mX12_count [rf g 68, .int (nI 4)] m (RF (some (.int (m 69 4))) m) := by
  refine JM_of (ls := [some (rf g 68), some (.int (nI 4))]) pn_X12 rfl rfl ?_
  have wn := w.n
  refine j_iload1 1 dX12_count_0 rfl ?_
  refine j_tabIn 60 dX12_count_1 (by decide) (by decide) rfl rfl ?_
  refine j_aload0 61 dX12_count_60 rfl ?_
  refine j_getR 64 dX12_count_61 rfl fl_X12_7 rfl rfl ?_
  refine j_iload1 65 dX12_count_64 rfl ?_
  refine j_iald 66 4 rfl (by decide) dX12_count_65 rfl rfl ?_
  refine j_iret dX12_count_66 rfl ?_
  exact ⟨rfl, rfl⟩
set_option maxRecDepth 100000 in
theorem o_count5 (m : Mem) (d : Nat → Int32) (w : WF d) (hT : TR 9 m d) : JM l g 2 mX11_count [rf g 0, .int (nI 5)] m (RF (some (.int (sumF (m 10) 16))) m) := by
  refine JM_of (ls := [some (rf g 0), some (.int (nI 5))]) pn_X11 rfl rfl ?_
  have wn := w.n
  have e9 : m 9 9 = nI (hn d) := hT.1.trans wn.2
  refine j_iload1 1 dX11_count_0 rfl ?_
  refine j_tabIn 100 dX11_count_1 (by decide) (by decide) rfl rfl ?_
  refine j_aload0 101 dX11_count_100 rfl ?_
  refine j_getR 104 dX11_count_101 rfl fl_X11_35 rfl rfl ?_
  refine j_getR 107 dX11_count_104 rfl fl_X11_90 rfl rfl ?_
  refine j_bipush 109 (v := nI 16) dX11_count_107 rfl rfl ?_
  refine j_st2f 112 dX11_count_109 rfl rfl cl_X11_320 rfl (c_sum10 m 16 (by decide)) ?_
  refine j_iret dX11_count_112 rfl ?_
  exact ⟨rfl, rfl⟩
set_option maxRecDepth 100000 in
theorem p_count5 (m : Mem) (w : WF (m 69)) : JM l g 2 mX12_count [rf g 68, .int (nI 5)] m (RF (some (.int (sumF (fun i => m 69 (8 + 1 * i)) 16))) m) := by
  refine JM_of (ls := [some (rf g 68), some (.int (nI 5))]) pn_X12 rfl rfl ?_
  have wn := w.n
  refine j_iload1 1 dX12_count_0 rfl ?_
  refine j_tabIn 67 dX12_count_1 (by decide) (by decide) rfl rfl ?_
  refine j_aload0 68 dX12_count_67 rfl ?_
  refine j_bipush 70 (v := nI 8) dX12_count_68 rfl rfl ?_
  refine j_bipush 72 (v := nI 16) dX12_count_70 rfl rfl ?_
  refine j_iconst 73 (v := nI 1) dX12_count_72 rfl rfl ?_
  refine j_vi3f 76 dX12_count_73 rfl rfl cl_X12_279 rfl rfl (c_msum m 8 16 1 (fun i hi => by omega) (by decide)) ?_
  refine j_iret dX12_count_76 rfl ?_
  exact ⟨rfl, rfl⟩
set_option maxRecDepth 100000 in
theorem o_count6 (m : Mem) (d : Nat → Int32) (w : WF d) (hT : TR 9 m d) : JM l g 2 mX11_count [rf g 0, .int (nI 6)] m (RF (some (.int (sumF (m 17) (hn d)))) m) := by
  refine JM_of (ls := [some (rf g 0), some (.int (nI 6))]) pn_X11 rfl rfl ?_
  have wn := w.n
  have e9 : m 9 9 = nI (hn d) := hT.1.trans wn.2
  refine j_iload1 1 dX11_count_0 rfl ?_
  refine j_tabIn 113 dX11_count_1 (by decide) (by decide) rfl rfl ?_
  refine j_aload0 114 dX11_count_113 rfl ?_
  refine j_getR 117 dX11_count_114 rfl fl_X11_35 rfl rfl ?_
  refine j_getR 120 dX11_count_117 rfl fl_X11_142 rfl rfl ?_
  refine j_aload0 121 dX11_count_120 rfl ?_
  refine j_getR 124 dX11_count_121 rfl fl_X11_35 rfl rfl ?_
  refine j_getI 127 dX11_count_124 rfl fl_X11_116 rfl rfl ?_
  rw [e9]
  refine j_st2f 130 dX11_count_127 rfl rfl cl_X11_320 rfl (c_sum17 m (hn d) wn.1) ?_
  refine j_iret dX11_count_130 rfl ?_
  exact ⟨rfl, rfl⟩
set_option maxRecDepth 100000 in
theorem p_count6 (m : Mem) (w : WF (m 69)) : JM l g 2 mX12_count [rf g 68, .int (nI 6)] m (RF (some (.int (sumF (fun i => m 69 (45 + 6 * i)) (hn (m 69))))) m) := by
  refine JM_of (ls := [some (rf g 68), some (.int (nI 6))]) pn_X12 rfl rfl ?_
  have wn := w.n
  refine j_iload1 1 dX12_count_0 rfl ?_
  refine j_tabIn 77 dX12_count_1 (by decide) (by decide) rfl rfl ?_
  refine j_aload0 78 dX12_count_77 rfl ?_
  refine j_bipush 80 (v := nI 45) dX12_count_78 rfl rfl ?_
  refine j_aload0 81 dX12_count_80 rfl ?_
  refine j_getR 84 dX12_count_81 rfl fl_X12_7 rfl rfl ?_
  refine j_iconst 85 (v := 0) dX12_count_84 rfl rfl ?_
  refine j_iald 86 0 rfl (by first | assumption | decide | omega) dX12_count_85 rfl rfl ?_
  refine j_bipush 88 (v := nI 6) dX12_count_86 rfl rfl ?_
  rw [wn.2]
  refine j_vi3f 91 dX12_count_88 rfl rfl cl_X12_279 rfl rfl (c_msum m 45 (hn (m 69)) 6 (fun i hi => by omega) (by omega)) ?_
  refine j_iret dX12_count_91 rfl ?_
  exact ⟨rfl, rfl⟩
set_option maxRecDepth 100000 in
theorem o_count7 (m : Mem) (d : Nat → Int32) (w : WF d) (hT : TR 9 m d) : JM l g 2 mX11_count [rf g 0, .int (nI 7)] m (RF (some (.int (m 36 4))) m) := by
  refine JM_of (ls := [some (rf g 0), some (.int (nI 7))]) pn_X11 rfl rfl ?_
  have wn := w.n
  have e9 : m 9 9 = nI (hn d) := hT.1.trans wn.2
  refine j_iload1 1 dX11_count_0 rfl ?_
  refine j_tabIn 131 dX11_count_1 (by decide) (by decide) rfl rfl ?_
  refine j_aload0 132 dX11_count_131 rfl ?_
  refine j_getR 135 dX11_count_132 rfl fl_X11_48 rfl rfl ?_
  refine j_getI 138 dX11_count_135 rfl fl_X11_174 rfl rfl ?_
  refine j_iret dX11_count_138 rfl ?_
  exact ⟨rfl, rfl⟩
set_option maxRecDepth 100000 in
theorem p_count7 (m : Mem) (w : WF (m 69)) : JM l g 2 mX12_count [rf g 68, .int (nI 7)] m (RF (some (.int (m 69 6))) m) := by
  refine JM_of (ls := [some (rf g 68), some (.int (nI 7))]) pn_X12 rfl rfl ?_
  have wn := w.n
  refine j_iload1 1 dX12_count_0 rfl ?_
  refine j_tabIn 92 dX12_count_1 (by decide) (by decide) rfl rfl ?_
  refine j_aload0 93 dX12_count_92 rfl ?_
  refine j_getR 96 dX12_count_93 rfl fl_X12_7 rfl rfl ?_
  refine j_bipush 98 (v := 6) dX12_count_96 rfl rfl ?_
  refine j_iald 99 6 rfl (by first | assumption | decide | omega) dX12_count_98 rfl rfl ?_
  refine j_iret dX12_count_99 rfl ?_
  exact ⟨rfl, rfl⟩
set_option maxRecDepth 100000 in
theorem o_count8 (m : Mem) (d : Nat → Int32) (w : WF d) (hT : TR 9 m d) : JM l g 2 mX11_count [rf g 0, .int (nI 8)] m (RF (some (.int (m 36 5))) m) := by
  refine JM_of (ls := [some (rf g 0), some (.int (nI 8))]) pn_X11 rfl rfl ?_
  have wn := w.n
  have e9 : m 9 9 = nI (hn d) := hT.1.trans wn.2
  refine j_iload1 1 dX11_count_0 rfl ?_
  refine j_tabIn 139 dX11_count_1 (by decide) (by decide) rfl rfl ?_
  refine j_aload0 140 dX11_count_139 rfl ?_
  refine j_getR 143 dX11_count_140 rfl fl_X11_48 rfl rfl ?_
  refine j_getI 146 dX11_count_143 rfl fl_X11_311 rfl rfl ?_
  refine j_iret dX11_count_146 rfl ?_
  exact ⟨rfl, rfl⟩
set_option maxRecDepth 100000 in
theorem p_count8 (m : Mem) (w : WF (m 69)) : JM l g 2 mX12_count [rf g 68, .int (nI 8)] m (RF (some (.int (m 69 7))) m) := by
  refine JM_of (ls := [some (rf g 68), some (.int (nI 8))]) pn_X12 rfl rfl ?_
  have wn := w.n
  refine j_iload1 1 dX12_count_0 rfl ?_
  refine j_tabIn 100 dX12_count_1 (by decide) (by decide) rfl rfl ?_
  refine j_aload0 101 dX12_count_100 rfl ?_
  refine j_getR 104 dX12_count_101 rfl fl_X12_7 rfl rfl ?_
  refine j_bipush 106 (v := 7) dX12_count_104 rfl rfl ?_
  refine j_iald 107 7 rfl (by first | assumption | decide | omega) dX12_count_106 rfl rfl ?_
  refine j_iret dX12_count_107 rfl ?_
  exact ⟨rfl, rfl⟩
set_option maxRecDepth 100000 in
theorem o_count9 (m : Mem) (d : Nat → Int32) (w : WF d) (hT : TR 9 m d) : JM l g 2 mX11_count [rf g 0, .int (nI 9)] m (RF (some (.int (m 58 1))) m) := by
  refine JM_of (ls := [some (rf g 0), some (.int (nI 9))]) pn_X11 rfl rfl ?_
  have wn := w.n
  have e9 : m 9 9 = nI (hn d) := hT.1.trans wn.2
  refine j_iload1 1 dX11_count_0 rfl ?_
  refine j_tabIn 147 dX11_count_1 (by decide) (by decide) rfl rfl ?_
  refine j_aload0 148 dX11_count_147 rfl ?_
  refine j_getR 151 dX11_count_148 rfl fl_X11_58 rfl rfl ?_
  refine j_getI 154 dX11_count_151 rfl fl_X11_273 rfl rfl ?_
  refine j_iret dX11_count_154 rfl ?_
  exact ⟨rfl, rfl⟩
set_option maxRecDepth 100000 in
theorem p_count9 (m : Mem) (w : WF (m 69)) : JM l g 2 mX12_count [rf g 68, .int (nI 9)] m (RF (some (.int (m 68 16))) m) := by
  refine JM_of (ls := [some (rf g 68), some (.int (nI 9))]) pn_X12 rfl rfl ?_
  have wn := w.n
  refine j_iload1 1 dX12_count_0 rfl ?_
  refine j_tabIn 108 dX12_count_1 (by decide) (by decide) rfl rfl ?_
  refine j_aload0 109 dX12_count_108 rfl ?_
  refine j_getI 112 dX12_count_109 rfl fl_X12_255 rfl rfl ?_
  refine j_iret dX12_count_112 rfl ?_
  exact ⟨rfl, rfl⟩
set_option maxRecDepth 100000 in
theorem o_count10 (m : Mem) (d : Nat → Int32) (w : WF d) (hT : TR 9 m d) : JM l g 2 mX11_count [rf g 0, .int (nI 10)] m (RF (some (.int (m 36 6))) m) := by
  refine JM_of (ls := [some (rf g 0), some (.int (nI 10))]) pn_X11 rfl rfl ?_
  have wn := w.n
  have e9 : m 9 9 = nI (hn d) := hT.1.trans wn.2
  refine j_iload1 1 dX11_count_0 rfl ?_
  refine j_tabIn 155 dX11_count_1 (by decide) (by decide) rfl rfl ?_
  refine j_aload0 156 dX11_count_155 rfl ?_
  refine j_getR 159 dX11_count_156 rfl fl_X11_48 rfl rfl ?_
  refine j_getI 162 dX11_count_159 rfl fl_X11_250 rfl rfl ?_
  refine j_iret dX11_count_162 rfl ?_
  exact ⟨rfl, rfl⟩
set_option maxRecDepth 100000 in
theorem p_count10 (m : Mem) (w : WF (m 69)) : JM l g 2 mX12_count [rf g 68, .int (nI 10)] m (RF (some (.int (m 69 5))) m) := by
  refine JM_of (ls := [some (rf g 68), some (.int (nI 10))]) pn_X12 rfl rfl ?_
  have wn := w.n
  refine j_iload1 1 dX12_count_0 rfl ?_
  refine j_tabIn 113 dX12_count_1 (by decide) (by decide) rfl rfl ?_
  refine j_aload0 114 dX12_count_113 rfl ?_
  refine j_getR 117 dX12_count_114 rfl fl_X12_7 rfl rfl ?_
  refine j_iconst 118 (v := 5) dX12_count_117 rfl rfl ?_
  refine j_iald 119 5 rfl (by first | assumption | decide | omega) dX12_count_118 rfl rfl ?_
  refine j_iret dX12_count_119 rfl ?_
  exact ⟨rfl, rfl⟩
theorem op_count {m : Mem} (I : INV m) (w : Int32) : OPr l g mX11_count mX12_count [.int w] m := by
  obtain ⟨⟨wf, hd, hT, hP⟩, R⟩ := id I
  have wn := wf.n
  by_cases c : 0 ≤ w ∧ w ≤ nI 10
  · obtain ⟨k, hk, rfl⟩ := (rngN 10 (by decide)).mp c
    rcases (show k = 0 ∨ k = 1 ∨ k = 2 ∨ k = 3 ∨ k = 4 ∨ k = 5 ∨ k = 6 ∨ k = 7 ∨ k = 8 ∨ k = 9 ∨ k = 10 by omega) with rfl | rfl | rfl | rfl | rfl | rfl | rfl | rfl | rfl | rfl | rfl
    · have E : m 9 9 = m 69 0 := hT.1
      refine ⟨2, 2, _, _, by decide, by decide, o_count0 m (m 69) wf hT, fun m' e => ?_⟩
      subst e
      have hq := p_count0 (l := l) (g := g) m' wf
      rw [← E] at hq
      exact hq.mono (RS_w (fun m2 q => by subst q; exact I))
    · have E : m 9 13 = m 69 1 := hT.2.2.2.2.1
      refine ⟨2, 2, _, _, by decide, by decide, o_count1 m (m 69) wf hT, fun m' e => ?_⟩
      subst e
      have hq := p_count1 (l := l) (g := g) m' wf
      rw [← E] at hq
      exact hq.mono (RS_w (fun m2 q => by subst q; exact I))
    · have E : m 9 10 = m 69 2 := hT.2.1
      refine ⟨2, 2, _, _, by decide, by decide, o_count2 m (m 69) wf hT, fun m' e => ?_⟩
      subst e
      have hq := p_count2 (l := l) (g := g) m' wf
      rw [← E] at hq
      exact hq.mono (RS_w (fun m2 q => by subst q; exact I))
    · have E : m 9 11 = m 69 3 := hT.2.2.1
      refine ⟨2, 2, _, _, by decide, by decide, o_count3 m (m 69) wf hT, fun m' e => ?_⟩
      subst e
      have hq := p_count3 (l := l) (g := g) m' wf
      rw [← E] at hq
      exact hq.mono (RS_w (fun m2 q => by subst q; exact I))
    · have E : m 9 12 = m 69 4 := hT.2.2.2.1
      refine ⟨2, 2, _, _, by decide, by decide, o_count4 m (m 69) wf hT, fun m' e => ?_⟩
      subst e
      have hq := p_count4 (l := l) (g := g) m' wf
      rw [← E] at hq
      exact hq.mono (RS_w (fun m2 q => by subst q; exact I))
    · have E : sumF (m 10) 16 = sumF (fun i => m 69 (8 + 1 * i)) 16 := sumF_congr (fun i hi => by rw [hT.2.2.2.2.2.1 i hi, Nat.one_mul])
      refine ⟨2, 2, _, _, by decide, by decide, o_count5 m (m 69) wf hT, fun m' e => ?_⟩
      subst e
      have hq := p_count5 (l := l) (g := g) m' wf
      rw [← E] at hq
      exact hq.mono (RS_w (fun m2 q => by subst q; exact I))
    · have E : sumF (m 17) (hn (m 69)) = sumF (fun i => m 69 (45 + 6 * i)) (hn (m 69)) := sumF_congr (fun i hi => by rw [show m 17 i = hf (m 69) i 5 from hT.2.2.2.2.2.2.2 i (by omega) 5 (by decide)]; exact congrArg (m 69) (by omega))
      refine ⟨2, 2, _, _, by decide, by decide, o_count6 m (m 69) wf hT, fun m' e => ?_⟩
      subst e
      have hq := p_count6 (l := l) (g := g) m' wf
      rw [← E] at hq
      exact hq.mono (RS_w (fun m2 q => by subst q; exact I))
    · have E : m 36 4 = m 69 6 := hP.1
      refine ⟨2, 2, _, _, by decide, by decide, o_count7 m (m 69) wf hT, fun m' e => ?_⟩
      subst e
      have hq := p_count7 (l := l) (g := g) m' wf
      rw [← E] at hq
      exact hq.mono (RS_w (fun m2 q => by subst q; exact I))
    · have E : m 36 5 = m 69 7 := hP.2.1
      refine ⟨2, 2, _, _, by decide, by decide, o_count8 m (m 69) wf hT, fun m' e => ?_⟩
      subst e
      have hq := p_count8 (l := l) (g := g) m' wf
      rw [← E] at hq
      exact hq.mono (RS_w (fun m2 q => by subst q; exact I))
    · have E : m 58 1 = m 68 16 := R.2.2.1.1
      refine ⟨2, 2, _, _, by decide, by decide, o_count9 m (m 69) wf hT, fun m' e => ?_⟩
      subst e
      have hq := p_count9 (l := l) (g := g) m' wf
      rw [← E] at hq
      exact hq.mono (RS_w (fun m2 q => by subst q; exact I))
    · have E : m 36 6 = m 69 5 := hP.2.2.1
      refine ⟨2, 2, _, _, by decide, by decide, o_count10 m (m 69) wf hT, fun m' e => ?_⟩
      subst e
      have hq := p_count10 (l := l) (g := g) m' wf
      rw [← E] at hq
      exact hq.mono (RS_w (fun m2 q => by subst q; exact I))
  · exact OPr_err I (by decide) (by decide) (by decide) (e_count m w c) (f_count _ w c)
end O14
