theorem rst_rst {a b : Nat → Int32} : rst (rst a b) a = a := by
  funext j
  unfold rst
  by_cases q : j < 88
  · rw [if_pos q, if_pos q]
  · rw [if_neg q]
theorem LR2 {m m' : Mem} {d : Nat → Int32} (hP : PR 36 m d) (h1 : m' 39 = m 39) (h2 : m' 40 = m 40) (h3 : m' 43 = m 43) (h4 : m' 44 = m 44) : LR m' 39 d 0 ∧ LR m' 43 d 1 := ⟨LR_congr (by decide) hP.2.2.2.2.2.1 h1 h2 (fun _ _ => rfl), LR_congr (by decide) hP.2.2.2.2.2.2 h3 h4 (fun _ _ => rfl)⟩
def MK (m m' : Mem) : Prop := m' 69 = m 69 ∧ Sm mtS m m'
theorem OPr_ask {l : Launch} {g : Gv} {y x : MD} {as : List Value} {m : Mem} {d1 d2 : Nat} {r : Int32} (I : INV m) (h1 : d1 < 1000) (h2 : d2 < 1000) (hC : JM l g d1 y (rf g 0 :: as) m (RS (some (.int r)) (Sm thS m))) (hM : ∀ m', Sm thS m m' → JM l g d2 x (rf g 68 :: as) m' (RS (some (.int r)) (MK m'))) : OPr l g y x as m :=
  ⟨d1, d2, r, Sm thS m, h1, h2, hC, fun m' s => (hM m' s).mono (RS_w (fun m2 q => INV_ask I s q.2 q.1))⟩
theorem INV_errs {m m' m'' : Mem} (I : INV m) {k : Nat} (hk : 1 ≤ k ∧ k ≤ 5) (h1 : Sm thS m m') (h2 : MK (errC k m') m'') : INV (errM k m'') := by
  -- the same cells as after the question, with both counts one more
  have e72 : ∀ b, b ≠ 67 → b ∉ thS → b ∉ mtS → m'' b = m b := fun b b1 b2 b3 => by rw [h2.2 b b3, errC_o b1, h1 b b2]
  have e69 : m'' 69 = m 69 := by rw [h2.1, errC_o (by decide), h1 69 (by decide)]
  have e67 : m'' 67 = errC k m 67 := by
    rw [h2.2 67 (by decide)]
    funext j
    show up2 m' 67 k (m' 67 k + 1) 67 j = up2 m 67 k (m 67 k + 1) 67 j
    rw [up2_cell, up2_cell, h1 67 (by decide)]
  have I2 := INV_err I hk
  have key : ∀ b, (b ∈ cD ∨ b ∈ cR ∨ b = 68) → errM k m'' b = errM k (errC k m) b := by
    intro b hb
    by_cases q : b = 72
    · subst q
      funext j
      show up2 m'' 72 k (m'' 72 k + 1) 72 j = up2 (errC k m) 72 k (errC k m 72 k + 1) 72 j
      rw [up2_cell, up2_cell, e72 72 (by decide) (by decide) (by decide), errC_o (by decide)]
    · show up2 m'' 72 k (m'' 72 k + 1) b = up2 (errC k m) 72 k (errC k m 72 k + 1) b
      rw [up2_r q, up2_r q]
      by_cases z : b = 67
      · subst z; exact e67
      · rw [errC_o z]
        by_cases y : b = 69
        · subst y; exact e69
        · refine e72 b z (fun w => ?_) (fun w => ?_)
          · simp only [thS, List.mem_cons, List.not_mem_nil, or_false] at w
            rcases w with rfl | rfl | rfl | rfl | rfl | rfl | rfl | rfl | rfl | rfl | rfl <;> revert hb <;> decide
          · simp only [mtS, List.mem_cons, List.not_mem_nil, or_false] at w
            rcases w with rfl | rfl | rfl | rfl
            · exact y rfl
            · revert hb; decide
            · revert hb; decide
            · revert hb; decide
  exact ⟨INVd_same I2.1 (fun b hb => key b (Or.inl hb)), INVr_same I2.2 (fun b hb => key b (Or.inr (Or.inl hb))) (by rw [key 68 (Or.inr (Or.inr rfl))]) (by rw [key 68 (Or.inr (Or.inr rfl))])⟩
theorem OPr_none {l : Launch} {g : Gv} {y x : MD} {as : List Value} {m : Mem} {d1 d2 k : Nat} {E : Int32} (I : INV m) (hk : 1 ≤ k ∧ k ≤ 5) (h1 : d1 < 1000) (h2 : d2 < 1000) (hC : JM l g d1 y (rf g 0 :: as) m (RS (some (.int E)) (fun m'' => ∃ m', Sm thS m m' ∧ m'' = errC k m'))) (hM : ∀ m', Sm thS m m' → JM l g d2 x (rf g 68 :: as) (errC k m') (RS (some (.int E)) (fun m3 => ∃ m2, MK (errC k m') m2 ∧ m3 = errM k m2))) : OPr l g y x as m :=
  ⟨d1, d2, E, _, h1, h2, hC, fun m' ⟨m1, s, e⟩ => by subst e; exact (hM m1 s).mono (RS_w (fun m3 ⟨m2, q, e2⟩ => by subst e2; exact INV_errs I hk s q))⟩
theorem dn {m m' : Mem} (s : Sm thS m m') : m' 69 = m 69 := s 69 (by decide)
section O7
variable {l : Launch} {g : Gv}
-- then
set_option maxRecDepth 100000 in
theorem e_then (m : Mem) (n h : Int32) (c : ¬ ((0 ≤ n ∧ n ≤ 60) ∧ 0 ≤ h ∧ h < m 9 9 ∧ h < 8)) : JM l g 2 mX11_then [rf g 0, .int n, .int h] m (RF (some (.int (-1000000001))) (errC 1 m)) := by
  refine JM_of (ls := [some (rf g 0), some (.int n), some (.int h)]) pn_X11 rfl rfl ?_
  refine j_iload1 1 dX11_then_0 rfl ?_
  refine j_iconst 2 (v := 0) dX11_then_1 rfl rfl ?_
  refine j_bipush 4 (v := 60) dX11_then_2 rfl rfl ?_
  refine j_st3f 7 dX11_then_4 rfl rfl cl_X11_86 rfl (c_within m n 0 60) ?_
  refine j_if_eq_bz 18 10 dX11_then_7 rfl rfl (fun h7 => ?_) (fun h7 => ?_)
  · refine j_aload0 19 dX11_then_18 rfl ?_
    refine j_ldc 21 dX11_then_19 rfl kc_X11_81 ?_
    refine j_vi1f 24 dX11_then_21 rfl rfl cl_X11_82 rfl rfl (c_err1 m) ?_
    refine j_iret dX11_then_24 rfl ?_
    exact ⟨rfl, rfl⟩
  · refine j_aload0 11 dX11_then_10 rfl ?_
    refine j_iload2 12 dX11_then_11 rfl ?_
    refine j_vi1f 15 dX11_then_12 rfl rfl cl_X11_124 rfl rfl (c_isHeir m h) ?_
    refine j_if_ne_bz 25 18 dX11_then_15 rfl rfl (fun h15 => ?_) (fun h15 => ?_)
    · exact absurd ⟨h7, h15⟩ c
    · refine j_aload0 19 dX11_then_18 rfl ?_
      refine j_ldc 21 dX11_then_19 rfl kc_X11_81 ?_
      refine j_vi1f 24 dX11_then_21 rfl rfl cl_X11_82 rfl rfl (c_err1 m) ?_
      refine j_iret dX11_then_24 rfl ?_
      exact ⟨rfl, rfl⟩
set_option maxRecDepth 100000 in
theorem f_then (m : Mem) (n h : Int32) (c : ¬ ((0 ≤ n ∧ n ≤ 60) ∧ 0 ≤ h ∧ h ≤ m 69 0 - 1)) : JM l g 2 mX12_then [rf g 68, .int n, .int h] m (RF (some (.int (-1000000001))) (errM 1 m)) := by
  refine JM_of (ls := [some (rf g 68), some (.int n), some (.int h)]) pn_X12 rfl rfl ?_
  refine j_iload1 1 dX12_then_0 rfl ?_
  refine j_i2l 2 dX12_then_1 rfl ?_
  refine j_lconst 3 (v := 0) dX12_then_2 rfl rfl ?_
  refine j_ldc2 6 dX12_then_3 rfl kl_X12_212 ?_
  refine j_st3f 9 dX12_then_6 rfl rfl cl_X12_47 rfl (c_in m n 0 60) ?_
  refine j_if_eq_bz 20 12 dX12_then_9 rfl rfl (fun h9 => ?_) (fun h9 => ?_)
  · refine j_aload0 21 dX12_then_20 rfl ?_
    refine j_iconst 22 (v := 1) dX12_then_21 rfl rfl ?_
    refine j_vi1f 25 dX12_then_22 rfl rfl cl_X12_126 rfl rfl (c_finds1 m) ?_
    refine j_iret dX12_then_25 rfl ?_
    exact ⟨rfl, rfl⟩
  · refine j_aload0 13 dX12_then_12 rfl ?_
    refine j_iload2 14 dX12_then_13 rfl ?_
    refine j_vi1f 17 dX12_then_14 rfl rfl cl_X12_199 rfl rfl (c_misHeir m h) ?_
    refine j_if_ne_bz 26 20 dX12_then_17 rfl rfl (fun h17 => ?_) (fun h17 => ?_)
    · exact absurd ⟨h9, h17⟩ c
    · refine j_aload0 21 dX12_then_20 rfl ?_
      refine j_iconst 22 (v := 1) dX12_then_21 rfl rfl ?_
      refine j_vi1f 25 dX12_then_22 rfl rfl cl_X12_126 rfl rfl (c_finds1 m) ?_
      refine j_iret dX12_then_25 rfl ?_
      exact ⟨rfl, rfl⟩
set_option maxRecDepth 100000 in
theorem o_then (m : Mem) (d : Nat → Int32) (w : WF d) (hT : TR 9 m d) (hP : PR 36 m d) (n h : Nat) (hn : n ≤ 60) (hh : h < 8) (h1 : 0 ≤ nI h ∧ nI h < m 9 9 ∧ nI h < 8) : JM l g 6 mX11_then [rf g 0, .int (nI n), .int (nI h)] m (RS (some (.int (itD n d (40 + 6 * h + 4)))) (Sm thS m)) := by
  refine JM_of (ls := [some (rf g 0), some (.int (nI n)), some (.int (nI h))]) pn_X11 rfl rfl ?_
  refine j_iload1 1 dX11_then_0 rfl ?_
  refine j_iconst 2 (v := 0) dX11_then_1 rfl rfl ?_
  refine j_bipush 4 (v := 60) dX11_then_2 rfl rfl ?_
  refine j_st3f 7 dX11_then_4 rfl rfl cl_X11_86 rfl (c_within m _ 0 60) ?_
  refine j_if_eq_bz 18 10 dX11_then_7 rfl rfl (fun h7 => absurd ((rngN 60 (by decide)).mpr ⟨n, hn, rfl⟩) h7) (fun h7 => ?_)
  refine j_aload0 11 dX11_then_10 rfl ?_
  refine j_iload2 12 dX11_then_11 rfl ?_
  refine j_vi1f 15 dX11_then_12 rfl rfl cl_X11_124 rfl rfl (c_isHeir m _) ?_
  refine j_if_ne_bz 25 18 dX11_then_15 rfl rfl (fun h15 => ?_) (fun h15 => absurd h1 h15)
  refine j_aload0 26 dX11_then_25 rfl ?_
  refine j_vi0w 29 dX11_then_26 rfl rfl cl_X11_217 rfl rfl (c_think m) (fun m26 q26 => ?_)
  obtain ⟨l0, l1⟩ := LR2 hP (q26.2 39 (by decide)) (q26.2 40 (by decide)) (q26.2 43 (by decide)) (q26.2 44 (by decide))
  refine j_aload0 30 dX11_then_29 rfl ?_
  refine j_getR 33 dX11_then_30 rfl fl_X11_39 rfl rfl ?_
  refine j_iload1 34 dX11_then_33 rfl ?_
  refine j_aload0 35 dX11_then_34 rfl ?_
  refine j_getR 38 dX11_then_35 rfl fl_X11_48 rfl rfl ?_
  refine j_vi2w 41 dX11_then_38 rfl rfl cl_X11_205 rfl rfl (c_goDays_18 m26 d n (by omega) w (q26.1 d hT) l0 l1) (fun m38 q38 => ?_)
  refine j_aload0 42 dX11_then_41 rfl ?_
  refine j_getR 45 dX11_then_42 rfl fl_X11_39 rfl rfl ?_
  refine j_getR 48 dX11_then_45 rfl fl_X11_139 rfl rfl ?_
  refine j_iload2 49 dX11_then_48 rfl ?_
  refine j_iald 50 _ rfl hh dX11_then_49 rfl rfl ?_
  refine j_iret dX11_then_50 rfl ?_
  exact ⟨by rw [show m38 25 h = hf (itD n d) h 4 from q38.1.2.2.2.2.2.2.2 h hh 4 (by decide)], (q26.2.mono (by decide)).trans (q38.2.mono (by decide))⟩
set_option maxRecDepth 100000 in
theorem p_then (m : Mem) (w : WF (m 69)) (hd : nb (m 69 1) 10000) (n h : Nat) (hn : n ≤ 60) (hh : h < 8) (h1 : 0 ≤ nI h ∧ nI h ≤ m 69 0 - 1) : JM l g 7 mX12_then [rf g 68, .int (nI n), .int (nI h)] m (RS (some (.int (itD n (m 69) (40 + 6 * h + 4)))) (MK m)) := by
  refine JM_of (ls := [some (rf g 68), some (.int (nI n)), some (.int (nI h))]) pn_X12 rfl rfl ?_
  have e69 : upR m 71 (rst (m 69) (m 71)) 69 = m 69 := upR_n (by decide)
  refine j_iload1 1 dX12_then_0 rfl ?_
  refine j_i2l 2 dX12_then_1 rfl ?_
  refine j_lconst 3 (v := 0) dX12_then_2 rfl rfl ?_
  refine j_ldc2 6 dX12_then_3 rfl kl_X12_212 ?_
  refine j_st3f 9 dX12_then_6 rfl rfl cl_X12_47 rfl (c_in m _ 0 60) ?_
  refine j_if_eq_bz 20 12 dX12_then_9 rfl rfl (fun h9 => absurd ((rngN 60 (by decide)).mpr ⟨n, hn, rfl⟩) h9) (fun h9 => ?_)
  refine j_aload0 13 dX12_then_12 rfl ?_
  refine j_iload2 14 dX12_then_13 rfl ?_
  refine j_vi1f 17 dX12_then_14 rfl rfl cl_X12_199 rfl rfl (c_misHeir m _) ?_
  refine j_if_ne_bz 26 20 dX12_then_17 rfl rfl (fun h17 => ?_) (fun h17 => absurd h1 h17)
  refine j_aload0 27 dX12_then_26 rfl ?_
  refine j_vi0v 30 dX12_then_27 rfl rfl cl_X12_226 rfl rfl (c_keepAside m) ?_
  refine j_aload0 31 dX12_then_30 rfl ?_
  refine j_iload1 32 dX12_then_31 rfl ?_
  refine j_iload2 33 dX12_then_32 rfl ?_
  refine j_iconst 34 (v := 4) dX12_then_33 rfl rfl ?_
  refine j_st2f 37 dX12_then_34 rfl rfl cl_X12_229 rfl (c_where _ h 4) ?_
  refine j_vi2s 40 dX12_then_37 rfl rfl cl_X12_232 rfl rfl (c_behind _ n (40 + 6 * h + 4) hn (by omega) (by rw [e69]; exact w) (by rw [e69]; exact nb_up hd (by decide))) (fun m37 q37 => ?_)
  refine j_iret dX12_then_40 rfl ?_
  exact ⟨by rw [e69], by rw [q37.1, upR_s, e69, rst_rst], (Sm.rf.row (by decide)).trans (q37.2.mono (by decide))⟩
theorem op_then {m : Mem} (I : INV m) (n h : Int32) : OPr l g mX11_then mX12_then [.int n, .int h] m := by
  obtain ⟨⟨wf, hd, hT, hP⟩, -⟩ := id I
  by_cases c : (0 ≤ n ∧ n ≤ 60) ∧ 0 ≤ h ∧ h < m 69 0 ∧ h < 8
  · obtain ⟨c1, h1⟩ := c
    obtain ⟨i, hi, rfl⟩ := (rngN 60 (by decide)).mp c1
    obtain ⟨j, hj, rfl⟩ := (isH_c wf).mp h1
    have hh : j < 8 := by have := wf.n.1; omega
    refine OPr_ask (d2 := 7) I (by decide) (by decide) (o_then m (m 69) wf hT hP i j hi hh (by rw [hT.1]; exact h1)) (fun m' s => ?_)
    have e := dn s
    have hq := p_then (l := l) (g := g) m' (by rw [e]; exact wf) (by rw [e]; exact hd) i j hi hh (by rw [e]; exact (isH_m wf).mpr ⟨j, hj, rfl⟩)
    rw [e] at hq
    exact hq
  · exact OPr_err I (by decide) (by decide) (by decide) (e_then m n h (by rw [hT.1]; exact c)) (f_then _ n h (fun q => c ⟨q.1, (isH_c wf).mpr ((isH_m wf).mp (by have := q.2; rw [errC_o (by decide)] at this; exact this))⟩))
-- light
set_option maxRecDepth 100000 in
theorem e_light (m : Mem) (n : Int32) (c : ¬ (0 ≤ n ∧ n ≤ 60)) : JM l g 2 mX11_light [rf g 0, .int n] m (RF (some (.int (-1000000001))) (errC 1 m)) := by
  refine JM_of (ls := [some (rf g 0), some (.int n)]) pn_X11 rfl rfl ?_
  refine j_iload1 1 dX11_light_0 rfl ?_
  refine j_iconst 2 (v := 0) dX11_light_1 rfl rfl ?_
  refine j_bipush 4 (v := 60) dX11_light_2 rfl rfl ?_
  refine j_st3f 7 dX11_light_4 rfl rfl cl_X11_86 rfl (c_within m n 0 60) ?_
  refine j_if_ne_bz 17 10 dX11_light_7 rfl rfl (fun h7 => absurd h7 c) (fun h7 => ?_)
  refine j_aload0 11 dX11_light_10 rfl ?_
  refine j_ldc 13 dX11_light_11 rfl kc_X11_81 ?_
  refine j_vi1f 16 dX11_light_13 rfl rfl cl_X11_82 rfl rfl (c_err1 m) ?_
  refine j_iret dX11_light_16 rfl ?_
  exact ⟨rfl, rfl⟩
set_option maxRecDepth 100000 in
theorem f_light (m : Mem) (n : Int32) (c : ¬ (0 ≤ n ∧ n ≤ 60)) : JM l g 2 mX12_light [rf g 68, .int n] m (RF (some (.int (-1000000001))) (errM 1 m)) := by
  refine JM_of (ls := [some (rf g 68), some (.int n)]) pn_X12 rfl rfl ?_
  refine j_iload1 1 dX12_light_0 rfl ?_
  refine j_i2l 2 dX12_light_1 rfl ?_
  refine j_lconst 3 (v := 0) dX12_light_2 rfl rfl ?_
  refine j_ldc2 6 dX12_light_3 rfl kl_X12_212 ?_
  refine j_st3f 9 dX12_light_6 rfl rfl cl_X12_47 rfl (c_in m n 0 60) ?_
  refine j_if_ne_bz 18 12 dX12_light_9 rfl rfl (fun h9 => absurd h9 c) (fun h9 => ?_)
  refine j_aload0 13 dX12_light_12 rfl ?_
  refine j_iconst 14 (v := 1) dX12_light_13 rfl rfl ?_
  refine j_vi1f 17 dX12_light_14 rfl rfl cl_X12_126 rfl rfl (c_finds1 m) ?_
  refine j_iret dX12_light_17 rfl ?_
  exact ⟨rfl, rfl⟩
set_option maxRecDepth 100000 in
theorem o_light (m : Mem) (d : Nat → Int32) (w : WF d) (hT : TR 9 m d) (hP : PR 36 m d) (n : Nat) (hn : n ≤ 60) : JM l g 6 mX11_light [rf g 0, .int (nI n)] m (RS (some (.int (itD n d 4 - d 4))) (Sm thS m)) := by
  refine JM_of (ls := [some (rf g 0), some (.int (nI n))]) pn_X11 rfl rfl ?_
  refine j_iload1 1 dX11_light_0 rfl ?_
  refine j_iconst 2 (v := 0) dX11_light_1 rfl rfl ?_
  refine j_bipush 4 (v := 60) dX11_light_2 rfl rfl ?_
  refine j_st3f 7 dX11_light_4 rfl rfl cl_X11_86 rfl (c_within m _ 0 60) ?_
  refine j_if_ne_bz 17 10 dX11_light_7 rfl rfl (fun h7 => ?_) (fun h7 => absurd ((rngN 60 (by decide)).mpr ⟨n, hn, rfl⟩) h7)
  refine j_aload0 18 dX11_light_17 rfl ?_
  refine j_vi0w 21 dX11_light_18 rfl rfl cl_X11_217 rfl rfl (c_think m) (fun m18 q18 => ?_)
  obtain ⟨l0, l1⟩ := LR2 hP (q18.2 39 (by decide)) (q18.2 40 (by decide)) (q18.2 43 (by decide)) (q18.2 44 (by decide))
  refine j_aload0 22 dX11_light_21 rfl ?_
  refine j_getR 25 dX11_light_22 rfl fl_X11_39 rfl rfl ?_
  refine j_iload1 26 dX11_light_25 rfl ?_
  refine j_aload0 27 dX11_light_26 rfl ?_
  refine j_getR 30 dX11_light_27 rfl fl_X11_48 rfl rfl ?_
  refine j_vi2w 33 dX11_light_30 rfl rfl cl_X11_205 rfl rfl (c_goDays_18 m18 d n (by omega) w (q18.1 d hT) l0 l1) (fun m30 q30 => ?_)
  refine j_aload0 34 dX11_light_33 rfl ?_
  refine j_getR 37 dX11_light_34 rfl fl_X11_39 rfl rfl ?_
  refine j_getI 40 dX11_light_37 rfl fl_X11_110 rfl rfl ?_
  refine j_aload0 41 dX11_light_40 rfl ?_
  refine j_getR 44 dX11_light_41 rfl fl_X11_35 rfl rfl ?_
  refine j_getI 47 dX11_light_44 rfl fl_X11_110 rfl rfl ?_
  refine j_isub 48 dX11_light_47 rfl ?_
  refine j_iret dX11_light_48 rfl ?_
  exact ⟨by rw [q30.1.2.2.2.1, q30.2 9 (by decide), q18.2 9 (by decide), hT.2.2.2.1], (q18.2.mono (by decide)).trans (q30.2.mono (by decide))⟩
set_option maxRecDepth 100000 in
theorem p_light (m : Mem) (w : WF (m 69)) (hd : nb (m 69 1) 10000) (n : Nat) (hn : n ≤ 60) : JM l g 7 mX12_light [rf g 68, .int (nI n)] m (RS (some (.int (itD n (m 69) 4 - m 69 4))) (MK m)) := by
  refine JM_of (ls := [some (rf g 68), some (.int (nI n))]) pn_X12 rfl rfl ?_
  have e69 : upR m 71 (rst (m 69) (m 71)) 69 = m 69 := upR_n (by decide)
  refine j_iload1 1 dX12_light_0 rfl ?_
  refine j_i2l 2 dX12_light_1 rfl ?_
  refine j_lconst 3 (v := 0) dX12_light_2 rfl rfl ?_
  refine j_ldc2 6 dX12_light_3 rfl kl_X12_212 ?_
  refine j_st3f 9 dX12_light_6 rfl rfl cl_X12_47 rfl (c_in m _ 0 60) ?_
  refine j_if_ne_bz 18 12 dX12_light_9 rfl rfl (fun h9 => ?_) (fun h9 => absurd ((rngN 60 (by decide)).mpr ⟨n, hn, rfl⟩) h9)
  refine j_aload0 19 dX12_light_18 rfl ?_
  refine j_vi0v 22 dX12_light_19 rfl rfl cl_X12_226 rfl rfl (c_keepAside m) ?_
  refine j_aload0 23 dX12_light_22 rfl ?_
  refine j_iload1 24 dX12_light_23 rfl ?_
  refine j_iconst 25 (v := 4) dX12_light_24 rfl rfl ?_
  refine j_vi2s 28 dX12_light_25 rfl rfl cl_X12_232 rfl rfl (c_behind _ n 4 hn (by decide) (by rw [e69]; exact w) (by rw [e69]; exact nb_up hd (by decide))) (fun m25 q25 => ?_)
  refine j_aload0 29 dX12_light_28 rfl ?_
  refine j_getR 32 dX12_light_29 rfl fl_X12_7 rfl rfl ?_
  refine j_iconst 33 (v := 4) dX12_light_32 rfl rfl ?_
  refine j_iald 34 4 rfl (by first | assumption | decide | omega) dX12_light_33 rfl rfl ?_
  refine j_isub 35 dX12_light_34 rfl ?_
  refine j_iret dX12_light_35 rfl ?_
  exact ⟨by rw [q25.1, upR_s, e69, rst_rst], by rw [q25.1, upR_s, e69, rst_rst], (Sm.rf.row (by decide)).trans (q25.2.mono (by decide))⟩
theorem op_light {m : Mem} (I : INV m) (n : Int32) : OPr l g mX11_light mX12_light [.int n] m := by
  obtain ⟨⟨wf, hd, hT, hP⟩, -⟩ := id I
  by_cases c : 0 ≤ n ∧ n ≤ 60
  · obtain ⟨i, hi, rfl⟩ := (rngN 60 (by decide)).mp c
    refine OPr_ask (d2 := 7) I (by decide) (by decide) (o_light m (m 69) wf hT hP i hi) (fun m' s => ?_)
    have e := dn s
    have hq := p_light (l := l) (g := g) m' (by rw [e]; exact wf) (by rw [e]; exact hd) i hi
    rw [e] at hq
    exact hq
  · exact OPr_err I (by decide) (by decide) (by decide) (e_light m n c) (f_light _ n c)
-- days
theorem itD_1 : ∀ (n : Nat) {d : Nat → Int32}, WF d → itD n d 1 = d 1 + nI n
  | 0, d, _ => by show d 1 = d 1 + nI 0; rw [nI_0]; exact (Int32.add_zero _).symm
  | n + 1, d, w => by
    show itD n (dayF d) 1 = _
    rw [itD_1 n (WF_day w), dayF_1 w, Int32.add_assoc]
    congr 1
    rw [show (1 : Int32) = nI 1 from rfl, nI_add]
    congr 1
    omega
set_option maxRecDepth 100000 in
theorem e_days (m : Mem) (n : Int32) (c : ¬ (1 ≤ n ∧ n ≤ 60)) : JM l g 2 mX11_days [rf g 0, .int n] m (RF (some (.int (-1000000001))) (errC 1 m)) := by
  refine JM_of (ls := [some (rf g 0), some (.int n)]) pn_X11 rfl rfl ?_
  refine j_iload1 1 dX11_days_0 rfl ?_
  refine j_iconst 2 (v := 1) dX11_days_1 rfl rfl ?_
  refine j_bipush 4 (v := 60) dX11_days_2 rfl rfl ?_
  refine j_st3f 7 dX11_days_4 rfl rfl cl_X11_86 rfl (c_within m n 1 60) ?_
  refine j_if_ne_bz 17 10 dX11_days_7 rfl rfl (fun h7 => absurd h7 c) (fun h7 => ?_)
  refine j_aload0 11 dX11_days_10 rfl ?_
  refine j_ldc 13 dX11_days_11 rfl kc_X11_81 ?_
  refine j_vi1f 16 dX11_days_13 rfl rfl cl_X11_82 rfl rfl (c_err1 m) ?_
  refine j_iret dX11_days_16 rfl ?_
  exact ⟨rfl, rfl⟩
set_option maxRecDepth 100000 in
theorem f_days (m : Mem) (n : Int32) (c : ¬ (1 ≤ n ∧ n ≤ 60)) : JM l g 2 mX12_days [rf g 68, .int n] m (RF (some (.int (-1000000001))) (errM 1 m)) := by
  refine JM_of (ls := [some (rf g 68), some (.int n)]) pn_X12 rfl rfl ?_
  refine j_iload1 1 dX12_days_0 rfl ?_
  refine j_i2l 2 dX12_days_1 rfl ?_
  refine j_lconst 3 (v := 1) dX12_days_2 rfl rfl ?_
  refine j_ldc2 6 dX12_days_3 rfl kl_X12_212 ?_
  refine j_st3f 9 dX12_days_6 rfl rfl cl_X12_47 rfl (c_in m n 1 60) ?_
  refine j_if_ne_bz 18 12 dX12_days_9 rfl rfl (fun h9 => absurd h9 c) (fun h9 => ?_)
  refine j_aload0 13 dX12_days_12 rfl ?_
  refine j_iconst 14 (v := 1) dX12_days_13 rfl rfl ?_
  refine j_vi1f 17 dX12_days_14 rfl rfl cl_X12_126 rfl rfl (c_finds1 m) ?_
  refine j_iret dX12_days_17 rfl ?_
  exact ⟨rfl, rfl⟩
set_option maxRecDepth 100000 in
theorem e_days3 (m : Mem) (n : Int32) (c : 1 ≤ n ∧ n ≤ 60) (h : ¬ m 9 13 + n ≤ 9999) : JM l g 2 mX11_days [rf g 0, .int n] m (RF (some (.int (-1000000003))) (errC 3 m)) := by
  refine JM_of (ls := [some (rf g 0), some (.int n)]) pn_X11 rfl rfl ?_
  refine j_iload1 1 dX11_days_0 rfl ?_
  refine j_iconst 2 (v := 1) dX11_days_1 rfl rfl ?_
  refine j_bipush 4 (v := 60) dX11_days_2 rfl rfl ?_
  refine j_st3f 7 dX11_days_4 rfl rfl cl_X11_86 rfl (c_within m n 1 60) ?_
  refine j_if_ne_bz 17 10 dX11_days_7 rfl rfl (fun h7 => ?_) (fun h7 => absurd c h7)
  refine j_aload0 18 dX11_days_17 rfl ?_
  refine j_getR 21 dX11_days_18 rfl fl_X11_35 rfl rfl ?_
  refine j_getI 24 dX11_days_21 rfl fl_X11_202 rfl rfl ?_
  refine j_iload1 25 dX11_days_24 rfl ?_
  refine j_iadd 26 dX11_days_25 rfl ?_
  refine j_sipush 29 (v := 9999) dX11_days_26 rfl rfl ?_
  refine j_cmp_le 39 32 dX11_days_29 rfl rfl (fun h29 => absurd h29 h) (fun h29 => ?_)
  refine j_aload0 33 dX11_days_32 rfl ?_
  refine j_ldc 35 dX11_days_33 rfl kc_X11_169 ?_
  refine j_vi1f 38 dX11_days_35 rfl rfl cl_X11_82 rfl rfl (c_err3 m) ?_
  refine j_iret dX11_days_38 rfl ?_
  exact ⟨rfl, rfl⟩
set_option maxRecDepth 100000 in
theorem f_days3 (m : Mem) (n : Int32) (c : 1 ≤ n ∧ n ≤ 60) (h : ¬ m 69 1 + n ≤ 9999) : JM l g 2 mX12_days [rf g 68, .int n] m (RF (some (.int (-1000000003))) (errM 3 m)) := by
  refine JM_of (ls := [some (rf g 68), some (.int n)]) pn_X12 rfl rfl ?_
  refine j_iload1 1 dX12_days_0 rfl ?_
  refine j_i2l 2 dX12_days_1 rfl ?_
  refine j_lconst 3 (v := 1) dX12_days_2 rfl rfl ?_
  refine j_ldc2 6 dX12_days_3 rfl kl_X12_212 ?_
  refine j_st3f 9 dX12_days_6 rfl rfl cl_X12_47 rfl (c_in m n 1 60) ?_
  refine j_if_ne_bz 18 12 dX12_days_9 rfl rfl (fun h9 => ?_) (fun h9 => absurd c h9)
  refine j_aload0 19 dX12_days_18 rfl ?_
  refine j_getR 22 dX12_days_19 rfl fl_X12_7 rfl rfl ?_
  refine j_iconst 23 (v := 1) dX12_days_22 rfl rfl ?_
  refine j_iald 24 1 rfl (by first | assumption | decide | omega) dX12_days_23 rfl rfl ?_
  refine j_iload1 25 dX12_days_24 rfl ?_
  refine j_iadd 26 dX12_days_25 rfl ?_
  refine j_sipush 29 (v := 9999) dX12_days_26 rfl rfl ?_
  refine j_cmp_le 38 32 dX12_days_29 rfl rfl (fun h29 => absurd h29 h) (fun h29 => ?_)
  refine j_aload0 33 dX12_days_32 rfl ?_
  refine j_iconst 34 (v := 3) dX12_days_33 rfl rfl ?_
  refine j_vi1f 37 dX12_days_34 rfl rfl cl_X12_126 rfl rfl (c_finds3 m) ?_
  refine j_iret dX12_days_37 rfl ?_
  exact ⟨rfl, rfl⟩
set_option maxRecDepth 100000 in
theorem o_days (m : Mem) (d : Nat → Int32) (w : WF d) (hT : TR 9 m d) (hP : PR 36 m d) (n : Nat) (hn : n ≤ 60) (c : 1 ≤ nI n ∧ nI n ≤ 60) (h : m 9 13 + nI n ≤ 9999) : JM l g 6 mX11_days [rf g 0, .int (nI n)] m (RS (some (.int (itD n d 4))) (fun m' => TR 9 m' (itD n d) ∧ Sm [9, 15, 16, 17, 41, 45] m m')) := by
  refine JM_of (ls := [some (rf g 0), some (.int (nI n))]) pn_X11 rfl rfl ?_
  refine j_iload1 1 dX11_days_0 rfl ?_
  refine j_iconst 2 (v := 1) dX11_days_1 rfl rfl ?_
  refine j_bipush 4 (v := 60) dX11_days_2 rfl rfl ?_
  refine j_st3f 7 dX11_days_4 rfl rfl cl_X11_86 rfl (c_within m _ 1 60) ?_
  refine j_if_ne_bz 17 10 dX11_days_7 rfl rfl (fun h7 => ?_) (fun h7 => absurd c h7)
  refine j_aload0 18 dX11_days_17 rfl ?_
  refine j_getR 21 dX11_days_18 rfl fl_X11_35 rfl rfl ?_
  refine j_getI 24 dX11_days_21 rfl fl_X11_202 rfl rfl ?_
  refine j_iload1 25 dX11_days_24 rfl ?_
  refine j_iadd 26 dX11_days_25 rfl ?_
  refine j_sipush 29 (v := 9999) dX11_days_26 rfl rfl ?_
  refine j_cmp_le 39 32 dX11_days_29 rfl rfl (fun h29 => ?_) (fun h29 => absurd h h29)
  refine j_aload0 40 dX11_days_39 rfl ?_
  refine j_getR 43 dX11_days_40 rfl fl_X11_35 rfl rfl ?_
  refine j_iload1 44 dX11_days_43 rfl ?_
  refine j_aload0 45 dX11_days_44 rfl ?_
  refine j_getR 48 dX11_days_45 rfl fl_X11_48 rfl rfl ?_
  refine j_vi2w 51 dX11_days_48 rfl rfl cl_X11_205 rfl rfl (c_goDays_9 m d n (by omega) w hT hP.2.2.2.2.2.1 hP.2.2.2.2.2.2) (fun m48 q48 => ?_)
  refine j_aload0 52 dX11_days_51 rfl ?_
  refine j_getR 55 dX11_days_52 rfl fl_X11_35 rfl rfl ?_
  refine j_getI 58 dX11_days_55 rfl fl_X11_110 rfl rfl ?_
  refine j_iret dX11_days_58 rfl ?_
  exact ⟨by rw [q48.1.2.2.2.1], q48.1, q48.2⟩
set_option maxRecDepth 100000 in
theorem p_days (m : Mem) (w : WF (m 69)) (hd : nb (m 69 1) 10000) (n : Nat) (hn : n ≤ 60) (c : 1 ≤ nI n ∧ nI n ≤ 60) (h : m 69 1 + nI n ≤ 9999) : JM l g 6 mX12_days [rf g 68, .int (nI n)] m (RS (some (.int (itD n (m 69) 4))) (fun m' => m' 69 = itD n (m 69) ∧ Sm [69, 73, 75] m m')) := by
  refine JM_of (ls := [some (rf g 68), some (.int (nI n))]) pn_X12 rfl rfl ?_
  refine j_iload1 1 dX12_days_0 rfl ?_
  refine j_i2l 2 dX12_days_1 rfl ?_
  refine j_lconst 3 (v := 1) dX12_days_2 rfl rfl ?_
  refine j_ldc2 6 dX12_days_3 rfl kl_X12_212 ?_
  refine j_st3f 9 dX12_days_6 rfl rfl cl_X12_47 rfl (c_in m _ 1 60) ?_
  refine j_if_ne_bz 18 12 dX12_days_9 rfl rfl (fun h9 => ?_) (fun h9 => absurd c h9)
  refine j_aload0 19 dX12_days_18 rfl ?_
  refine j_getR 22 dX12_days_19 rfl fl_X12_7 rfl rfl ?_
  refine j_iconst 23 (v := 1) dX12_days_22 rfl rfl ?_
  refine j_iald 24 1 rfl (by first | assumption | decide | omega) dX12_days_23 rfl rfl ?_
  refine j_iload1 25 dX12_days_24 rfl ?_
  refine j_iadd 26 dX12_days_25 rfl ?_
  refine j_sipush 29 (v := 9999) dX12_days_26 rfl rfl ?_
  refine j_cmp_le 38 32 dX12_days_29 rfl rfl (fun h29 => ?_) (fun h29 => absurd h h29)
  refine j_aload0 39 dX12_days_38 rfl ?_
  refine j_iload1 40 dX12_days_39 rfl ?_
  refine j_vi1w 43 dX12_days_40 rfl rfl cl_X12_214 rfl rfl (c_daysGo m n hn w (nb_up hd (by decide))) (fun m40 q40 => ?_)
  refine j_aload0 44 dX12_days_43 rfl ?_
  refine j_getR 47 dX12_days_44 rfl fl_X12_7 rfl rfl ?_
  refine j_iconst 48 (v := 4) dX12_days_47 rfl rfl ?_
  refine j_iald 49 4 rfl (by first | assumption | decide | omega) dX12_days_48 rfl rfl ?_
  refine j_iret dX12_days_49 rfl ?_
  exact ⟨by rw [q40.1], q40⟩
theorem op_days {m : Mem} (I : INV m) (n : Int32) : OPr l g mX11_days mX12_days [.int n] m := by
  obtain ⟨⟨wf, hd, hT, hP⟩, -⟩ := id I
  by_cases c : 1 ≤ n ∧ n ≤ 60
  · by_cases h : m 69 1 + n ≤ 9999
    · obtain ⟨i, hi, rfl⟩ := (rngN 60 (by decide)).mp ⟨Int32.le_trans (by decide) c.1, c.2⟩
      refine ⟨6, 6, _, _, by decide, by decide, o_days m (m 69) wf hT hP i hi c (by rw [hT.2.2.2.2.1]; exact h), fun m' e => ?_⟩
      obtain ⟨e1, e2⟩ := e
      have e69 : m' 69 = m 69 := e2 69 (by decide)
      have hq := p_days (l := l) (g := g) m' (by rw [e69]; exact wf) (by rw [e69]; exact hd) i hi c (by rw [e69]; exact h)
      rw [e69] at hq
      refine hq.mono (RS_w (fun m2 q => ?_))
      obtain ⟨q1, q2⟩ := q
      refine INV_new I (fun x hx => ?_) (by rw [q2 68 (by decide), e2 68 (by decide)]) ⟨by rw [q1]; exact itD_wf i wf, ?_, by rw [q1]; exact TR_same e1 (fun b b1 b2 => q2 b (by simp; omega)), ?_⟩
      · rw [q2 x (fun z => by simp only [List.mem_cons, List.not_mem_nil, or_false] at z; rcases z with rfl | rfl | rfl <;> exact absurd hx (by decide))]
        refine e2 x (fun z => ?_)
        simp only [List.mem_cons, List.not_mem_nil, or_false] at z
        rcases z with rfl | rfl | rfl | rfl | rfl | rfl <;> exact absurd hx (by decide)
      · rw [q1, itD_1 i wf]
        obtain ⟨k, hk, ek⟩ := hd
        rw [ek, nI_add] at h ⊢
        have := (nI_leI (a := k + i) (b := 9999) (by omega) (by decide)).mp h
        exact ⟨k + i, by omega, rfl⟩
      · rw [q1]
        exact PR_same (PR_d hP (fun k hk => itD_k i wf (by omega) (by omega) (by omega))) (fun b hb => (q2 b (by simp; omega)).trans (e2 b (by simp; omega)))
    · exact OPr_err I (by decide) (by decide) (by decide) (e_days3 m n c (by rw [hT.2.2.2.2.1]; exact h)) (f_days3 _ n c (by rw [errC_o (by decide)]; exact h))
  · exact OPr_err I (by decide) (by decide) (by decide) (e_days m n c) (f_days _ n c)
end O7
