section O10
variable {l : Launch} {g : Gv}
set_option maxRecDepth 100000 in
theorem oc_meet (a b : Nat) (ha : a < 8) (hb : b < 8) (d : Nat → Int32) (w0 : WF d) (m0 m : Mem) (N : Nat) (hN : N ≤ 60) (hyes : (fun e : Nat → Int32 => hf e a 4 ≠ -1 ∧ hf e a 4 = hf e b 4) (itD N d))  (hT : TR 18 m (itD N d)) (hs : Sm thS m0 m) (o : Option Value) : J l g 6 mX11_meet 34 [some (rf g 0), some (.int (nI a)), some (.int (nI b)), some (.int (nI N))] [] m (RS (some (.int (nI N))) (Sm thS m0)) := by
  have w := itD_wf N w0
  refine j_iload3 35 dX11_meet_34 rfl ?_
  refine j_bipush 37 (v := 60) dX11_meet_35 rfl rfl ?_
  refine j_cmp_gt 102 40 dX11_meet_37 rfl rfl (fun h37 => absurd h37 (nI_nlt (a := 60) (b := N) (by omega) (by decide))) (fun h37 => ?_)
  refine j_aload0 41 dX11_meet_40 rfl ?_
  refine j_getR 44 dX11_meet_41 rfl fl_X11_39 rfl rfl ?_
  refine j_iload1 45 dX11_meet_44 rfl ?_
  refine j_vi1f 48 dX11_meet_45 rfl rfl cl_X11_149 rfl rfl (c_isDust_18 m a ha) ?_
  refine j_if_eq_bz 85 51 dX11_meet_48 rfl rfl (fun h48 => absurd (by rw [show m 24 a = hf (itD N d) a 3 from hT.2.2.2.2.2.2.2 a ha 3 (by decide)]; exact Classical.byContradiction fun q => hyes.1 ((w.hw ha).2.2.2.2.2.1 q)) h48) (fun h48 => ?_)
  refine j_aload0 52 dX11_meet_51 rfl ?_
  refine j_getR 55 dX11_meet_52 rfl fl_X11_39 rfl rfl ?_
  refine j_iload2 56 dX11_meet_55 rfl ?_
  refine j_vi1f 59 dX11_meet_56 rfl rfl cl_X11_149 rfl rfl (c_isDust_18 m b hb) ?_
  refine j_if_eq_bz 85 62 dX11_meet_59 rfl rfl (fun h59 => absurd (by rw [show m 24 b = hf (itD N d) b 3 from hT.2.2.2.2.2.2.2 b hb 3 (by decide)]; exact Classical.byContradiction fun q => hyes.1 (hyes.2.trans ((w.hw hb).2.2.2.2.2.1 q))) h59) (fun h59 => ?_)
  refine j_aload0 63 dX11_meet_62 rfl ?_
  refine j_getR 66 dX11_meet_63 rfl fl_X11_39 rfl rfl ?_
  refine j_getR 69 dX11_meet_66 rfl fl_X11_139 rfl rfl ?_
  refine j_iload1 70 dX11_meet_69 rfl ?_
  refine j_iald 71 _ rfl ha dX11_meet_70 rfl rfl ?_
  refine j_aload0 72 dX11_meet_71 rfl ?_
  refine j_getR 75 dX11_meet_72 rfl fl_X11_39 rfl rfl ?_
  refine j_getR 78 dX11_meet_75 rfl fl_X11_139 rfl rfl ?_
  refine j_iload2 79 dX11_meet_78 rfl ?_
  refine j_iald 80 _ rfl hb dX11_meet_79 rfl rfl ?_
  refine j_cmp_ne 85 83 dX11_meet_80 rfl rfl (fun h80 => absurd h80 (fun q => q (by rw [show m 25 a = hf (itD N d) a 4 from hT.2.2.2.2.2.2.2 a ha 4 (by decide), show m 25 b = hf (itD N d) b 4 from hT.2.2.2.2.2.2.2 b hb 4 (by decide)]; exact hyes.2))) (fun h80 => ?_)
  refine j_iload3 84 dX11_meet_83 rfl ?_
  refine j_iret dX11_meet_84 rfl ?_
  exact ⟨rfl, hs⟩
set_option maxRecDepth 100000 in
theorem nc_meet (a b : Nat) (ha : a < 8) (hb : b < 8) (m0 m : Mem) (hs : Sm thS m0 m) (o : Option Value) : J l g 6 mX11_meet 34 [some (rf g 0), some (.int (nI a)), some (.int (nI b)), some (.int (nI 61))] [] m (RS (some (.int (-1000000002))) (fun m2 => ∃ m', Sm thS m0 m' ∧ m2 = errC 2 m')) := by
  refine j_iload3 35 dX11_meet_34 rfl ?_
  refine j_bipush 37 (v := 60) dX11_meet_35 rfl rfl ?_
  refine j_cmp_gt 102 40 dX11_meet_37 rfl rfl (fun h37 => ?_) (fun h37 => absurd (by decide) h37)
  refine j_aload0 103 dX11_meet_102 rfl ?_
  refine j_ldc 105 dX11_meet_103 rfl kc_X11_223 ?_
  refine j_vi1f 108 dX11_meet_105 rfl rfl cl_X11_82 rfl rfl (c_err2 m) ?_
  refine j_iret dX11_meet_108 rfl ?_
  exact ⟨rfl, m, hs, rfl⟩
set_option maxRecDepth 100000 in
theorem o_meet (m : Mem) (d : Nat → Int32) (w : WF d) (hT : TR 9 m d) (hP : PR 36 m d) (a b : Nat) (ha : a < 8) (hb : b < 8) (h1 : 0 ≤ nI a ∧ nI a < m 9 9 ∧ nI a < 8) (h2 : 0 ≤ nI b ∧ nI b < m 9 9 ∧ nI b < 8) (h3 : nI a ≠ nI b) (N : Nat) (hN : N ≤ 60) (hno : ∀ j, j < N → ¬ (fun e : Nat → Int32 => hf e a 4 ≠ -1 ∧ hf e a 4 = hf e b 4) (itD j d)) (hyes : (fun e : Nat → Int32 => hf e a 4 ≠ -1 ∧ hf e a 4 = hf e b 4) (itD N d)) : JM l g 6 mX11_meet [rf g 0, .int (nI a), .int (nI b)] m (RS (some (.int (nI N))) (Sm thS m)) := by
  refine JM_of (ls := [some (rf g 0), some (.int (nI a)), some (.int (nI b)), none]) pn_X11 rfl rfl ?_
  refine j_aload0 1 dX11_meet_0 rfl ?_
  refine j_iload1 2 dX11_meet_1 rfl ?_
  refine j_vi1f 5 dX11_meet_2 rfl rfl cl_X11_124 rfl rfl (c_isHeir m _) ?_
  refine j_if_eq_bz 21 8 dX11_meet_5 rfl rfl (fun h5 => absurd h1 h5) (fun h5 => ?_)
  refine j_aload0 9 dX11_meet_8 rfl ?_
  refine j_iload2 10 dX11_meet_9 rfl ?_
  refine j_vi1f 13 dX11_meet_10 rfl rfl cl_X11_124 rfl rfl (c_isHeir m _) ?_
  refine j_if_eq_bz 21 16 dX11_meet_13 rfl rfl (fun h13 => absurd h2 h13) (fun h13 => ?_)
  refine j_iload1 17 dX11_meet_16 rfl ?_
  refine j_iload2 18 dX11_meet_17 rfl ?_
  refine j_cmp_ne 28 21 dX11_meet_18 rfl rfl (fun h18 => ?_) (fun h18 => absurd h18 h3)
  refine j_aload0 29 dX11_meet_28 rfl ?_
  refine j_vi0w 32 dX11_meet_29 rfl rfl cl_X11_217 rfl rfl (c_think m) (fun m29 q29 => ?_)
  refine j_iconst 33 (v := 0) dX11_meet_32 rfl rfl ?_
  refine j_istore3 34 dX11_meet_33 rfl rfl rfl ?_
  obtain ⟨l0, l1⟩ := LR2 hP (q29.2 39 (by decide)) (q29.2 40 (by decide)) (q29.2 43 (by decide)) (q29.2 44 (by decide))
  exact lq_meet a b ha hb d w m N (by omega) hno (fun m1 hT1 hl0 hl1 hs1 o => oc_meet a b ha hb d w m m1 N hN hyes  hT1 hs1 o) N 0 m29 none (Nat.zero_add _) (q29.1 d hT) l0 l1 (q29.2.mono (by decide))
set_option maxRecDepth 100000 in
theorem n_meet (m : Mem) (d : Nat → Int32) (w : WF d) (hT : TR 9 m d) (hP : PR 36 m d) (a b : Nat) (ha : a < 8) (hb : b < 8) (h1 : 0 ≤ nI a ∧ nI a < m 9 9 ∧ nI a < 8) (h2 : 0 ≤ nI b ∧ nI b < m 9 9 ∧ nI b < 8) (h3 : nI a ≠ nI b) (hno : ∀ j, j < 61 → ¬ (fun e : Nat → Int32 => hf e a 4 ≠ -1 ∧ hf e a 4 = hf e b 4) (itD j d)) : JM l g 6 mX11_meet [rf g 0, .int (nI a), .int (nI b)] m (RS (some (.int (-1000000002))) (fun m2 => ∃ m', Sm thS m m' ∧ m2 = errC 2 m')) := by
  refine JM_of (ls := [some (rf g 0), some (.int (nI a)), some (.int (nI b)), none]) pn_X11 rfl rfl ?_
  refine j_aload0 1 dX11_meet_0 rfl ?_
  refine j_iload1 2 dX11_meet_1 rfl ?_
  refine j_vi1f 5 dX11_meet_2 rfl rfl cl_X11_124 rfl rfl (c_isHeir m _) ?_
  refine j_if_eq_bz 21 8 dX11_meet_5 rfl rfl (fun h5 => absurd h1 h5) (fun h5 => ?_)
  refine j_aload0 9 dX11_meet_8 rfl ?_
  refine j_iload2 10 dX11_meet_9 rfl ?_
  refine j_vi1f 13 dX11_meet_10 rfl rfl cl_X11_124 rfl rfl (c_isHeir m _) ?_
  refine j_if_eq_bz 21 16 dX11_meet_13 rfl rfl (fun h13 => absurd h2 h13) (fun h13 => ?_)
  refine j_iload1 17 dX11_meet_16 rfl ?_
  refine j_iload2 18 dX11_meet_17 rfl ?_
  refine j_cmp_ne 28 21 dX11_meet_18 rfl rfl (fun h18 => ?_) (fun h18 => absurd h18 h3)
  refine j_aload0 29 dX11_meet_28 rfl ?_
  refine j_vi0w 32 dX11_meet_29 rfl rfl cl_X11_217 rfl rfl (c_think m) (fun m29 q29 => ?_)
  refine j_iconst 33 (v := 0) dX11_meet_32 rfl rfl ?_
  refine j_istore3 34 dX11_meet_33 rfl rfl rfl ?_
  obtain ⟨l0, l1⟩ := LR2 hP (q29.2 39 (by decide)) (q29.2 40 (by decide)) (q29.2 43 (by decide)) (q29.2 44 (by decide))
  exact lq_meet a b ha hb d w m 61 (by omega) hno (fun m1 hT1 hl0 hl1 hs1 o => nc_meet a b ha hb m m1 hs1 o) 61 0 m29 none (Nat.zero_add _) (q29.1 d hT) l0 l1 (q29.2.mono (by decide))
set_option maxRecDepth 100000 in
theorem om_meet (a b : Nat) (ha : a < 8) (hb : b < 8) (m0 m : Mem) (w0 : WF (m0 69)) (N : Nat) (hN : N ≤ 60) (hyes : (fun e : Nat → Int32 => hf e a 4 ≠ -1 ∧ hf e a 4 = hf e b 4) (itD N (m0 69)))  (hm : m 69 = itD N (m0 69)) (hs : Sm [69, 73, 75] (upR m0 71 (rst (m0 69) (m0 71))) m) : J l g 6 mX12_meet 33 [some (rf g 68), some (.int (nI a)), some (.int (nI b)), some (.int (nI N)), none] [] m (RS (some (.int (nI N))) (MK m0)) := by
  have w : WF (m 69) := by rw [hm]; exact itD_wf N w0
  have hy : (fun e : Nat → Int32 => hf e a 4 ≠ -1 ∧ hf e a 4 = hf e b 4) (m 69) := by rw [hm]; exact hyes
  have hmk : MK m0 (upR m 69 (rst (m 71) (m 69))) := ⟨by rw [upR_s, hs 71 (by decide), upR_s, hm, rst_it w0, rst_rst], ((Sm.rf.row (by decide)).trans (hs.mono (by decide))).row (by decide)⟩
  refine j_iload3 34 dX12_meet_33 rfl ?_
  refine j_bipush 36 (v := 60) dX12_meet_34 rfl rfl ?_
  skip
  refine j_cmp_ge 74 39 dX12_meet_36 rfl rfl (fun h36 => ?_) (fun h36 => ?_)
  · refine j_aload0 75 dX12_meet_74 rfl ?_
    refine j_iload1 76 dX12_meet_75 rfl ?_
    refine j_iconst 77 (v := 4) dX12_meet_76 rfl rfl ?_
    refine j_vi2f 80 dX12_meet_77 rfl rfl cl_X12_146 rfl rfl (c_of m a 4 ha (by decide)) ?_
    refine j_iconst 81 (v := -1) dX12_meet_80 rfl rfl ?_
    refine j_cmp_eq 103 84 dX12_meet_81 rfl rfl (fun h81 => absurd h81 hy.1) (fun h81 => ?_)
    refine j_aload0 85 dX12_meet_84 rfl ?_
    refine j_iload1 86 dX12_meet_85 rfl ?_
    refine j_iconst 87 (v := 4) dX12_meet_86 rfl rfl ?_
    refine j_vi2f 90 dX12_meet_87 rfl rfl cl_X12_146 rfl rfl (c_of m a 4 ha (by decide)) ?_
    refine j_aload0 91 dX12_meet_90 rfl ?_
    refine j_iload2 92 dX12_meet_91 rfl ?_
    refine j_iconst 93 (v := 4) dX12_meet_92 rfl rfl ?_
    refine j_vi2f 96 dX12_meet_93 rfl rfl cl_X12_146 rfl rfl (c_of m b 4 hb (by decide)) ?_
    refine j_cmp_ne 103 99 dX12_meet_96 rfl rfl (fun h96 => absurd h96 (fun q => q hy.2)) (fun h96 => ?_)
    refine j_iconst 100 (v := 1) dX12_meet_99 rfl rfl ?_
    refine j_goto 104 dX12_meet_100 rfl ?_
    refine j_istore4 106 dX12_meet_104 rfl rfl rfl ?_
    refine j_aload0 107 dX12_meet_106 rfl ?_
    refine j_vi0v 110 dX12_meet_107 rfl rfl cl_X12_223 rfl rfl (c_putBack _) ?_
    refine j_iload4 112 dX12_meet_110 rfl ?_
    refine j_if_eq 119 115 dX12_meet_112 rfl rfl (fun h112 => absurd h112 (by decide)) (fun h112 => ?_)
    refine j_iload3 116 dX12_meet_115 rfl ?_
    refine j_goto 124 dX12_meet_116 rfl ?_
    refine j_iret dX12_meet_124 rfl ?_
    exact ⟨rfl, hmk⟩
  · refine j_aload0 40 dX12_meet_39 rfl ?_
    refine j_iload1 41 dX12_meet_40 rfl ?_
    refine j_iconst 42 (v := 4) dX12_meet_41 rfl rfl ?_
    refine j_vi2f 45 dX12_meet_42 rfl rfl cl_X12_146 rfl rfl (c_of m a 4 ha (by decide)) ?_
    refine j_iconst 46 (v := -1) dX12_meet_45 rfl rfl ?_
    refine j_cmp_eq 64 49 dX12_meet_46 rfl rfl (fun h46 => absurd h46 hy.1) (fun h46 => ?_)
    refine j_aload0 50 dX12_meet_49 rfl ?_
    refine j_iload1 51 dX12_meet_50 rfl ?_
    refine j_iconst 52 (v := 4) dX12_meet_51 rfl rfl ?_
    refine j_vi2f 55 dX12_meet_52 rfl rfl cl_X12_146 rfl rfl (c_of m a 4 ha (by decide)) ?_
    refine j_aload0 56 dX12_meet_55 rfl ?_
    refine j_iload2 57 dX12_meet_56 rfl ?_
    refine j_iconst 58 (v := 4) dX12_meet_57 rfl rfl ?_
    refine j_vi2f 61 dX12_meet_58 rfl rfl cl_X12_146 rfl rfl (c_of m b 4 hb (by decide)) ?_
    refine j_cmp_eq 74 64 dX12_meet_61 rfl rfl (fun h61 => ?_) (fun h61 => absurd hy.2 h61)
    refine j_aload0 75 dX12_meet_74 rfl ?_
    refine j_iload1 76 dX12_meet_75 rfl ?_
    refine j_iconst 77 (v := 4) dX12_meet_76 rfl rfl ?_
    refine j_vi2f 80 dX12_meet_77 rfl rfl cl_X12_146 rfl rfl (c_of m a 4 ha (by decide)) ?_
    refine j_iconst 81 (v := -1) dX12_meet_80 rfl rfl ?_
    refine j_cmp_eq 103 84 dX12_meet_81 rfl rfl (fun h81 => absurd h81 hy.1) (fun h81 => ?_)
    refine j_aload0 85 dX12_meet_84 rfl ?_
    refine j_iload1 86 dX12_meet_85 rfl ?_
    refine j_iconst 87 (v := 4) dX12_meet_86 rfl rfl ?_
    refine j_vi2f 90 dX12_meet_87 rfl rfl cl_X12_146 rfl rfl (c_of m a 4 ha (by decide)) ?_
    refine j_aload0 91 dX12_meet_90 rfl ?_
    refine j_iload2 92 dX12_meet_91 rfl ?_
    refine j_iconst 93 (v := 4) dX12_meet_92 rfl rfl ?_
    refine j_vi2f 96 dX12_meet_93 rfl rfl cl_X12_146 rfl rfl (c_of m b 4 hb (by decide)) ?_
    refine j_cmp_ne 103 99 dX12_meet_96 rfl rfl (fun h96 => absurd h96 (fun q => q hy.2)) (fun h96 => ?_)
    refine j_iconst 100 (v := 1) dX12_meet_99 rfl rfl ?_
    refine j_goto 104 dX12_meet_100 rfl ?_
    refine j_istore4 106 dX12_meet_104 rfl rfl rfl ?_
    refine j_aload0 107 dX12_meet_106 rfl ?_
    refine j_vi0v 110 dX12_meet_107 rfl rfl cl_X12_223 rfl rfl (c_putBack _) ?_
    refine j_iload4 112 dX12_meet_110 rfl ?_
    refine j_if_eq 119 115 dX12_meet_112 rfl rfl (fun h112 => absurd h112 (by decide)) (fun h112 => ?_)
    refine j_iload3 116 dX12_meet_115 rfl ?_
    refine j_goto 124 dX12_meet_116 rfl ?_
    refine j_iret dX12_meet_124 rfl ?_
    exact ⟨rfl, hmk⟩
set_option maxRecDepth 100000 in
theorem nm_meet (a b : Nat) (ha : a < 8) (hb : b < 8) (m0 m : Mem) (w0 : WF (m0 69)) (hno : ∀ j, j < 61 → ¬ (fun e : Nat → Int32 => hf e a 4 ≠ -1 ∧ hf e a 4 = hf e b 4) (itD j (m0 69))) (hm : m 69 = itD 60 (m0 69)) (hs : Sm [69, 73, 75] (upR m0 71 (rst (m0 69) (m0 71))) m) : J l g 6 mX12_meet 33 [some (rf g 68), some (.int (nI a)), some (.int (nI b)), some (.int (nI 60)), none] [] m (RS (some (.int (-1000000002))) (fun m3 => ∃ m2, MK m0 m2 ∧ m3 = errM 2 m2)) := by
  have w : WF (m 69) := by rw [hm]; exact itD_wf 60 w0
  have hy : ¬ (fun e : Nat → Int32 => hf e a 4 ≠ -1 ∧ hf e a 4 = hf e b 4) (m 69) := by rw [hm]; exact hno 60 (by decide)
  have hmk : MK m0 (upR m 69 (rst (m 71) (m 69))) := ⟨by rw [upR_s, hs 71 (by decide), upR_s, hm, rst_it w0, rst_rst], ((Sm.rf.row (by decide)).trans (hs.mono (by decide))).row (by decide)⟩
  refine j_iload3 34 dX12_meet_33 rfl ?_
  refine j_bipush 36 (v := 60) dX12_meet_34 rfl rfl ?_
  refine j_cmp_ge 74 39 dX12_meet_36 rfl rfl (fun h36 => ?_) (fun h36 => absurd (by decide) h36)
  refine j_aload0 75 dX12_meet_74 rfl ?_
  refine j_iload1 76 dX12_meet_75 rfl ?_
  refine j_iconst 77 (v := 4) dX12_meet_76 rfl rfl ?_
  refine j_vi2f 80 dX12_meet_77 rfl rfl cl_X12_146 rfl rfl (c_of m a 4 ha (by decide)) ?_
  refine j_iconst 81 (v := -1) dX12_meet_80 rfl rfl ?_
  refine j_cmp_eq 103 84 dX12_meet_81 rfl rfl (fun h81 => ?_) (fun h81 => ?_)
  · refine j_iconst 104 (v := 0) dX12_meet_103 rfl rfl ?_
    refine j_istore4 106 dX12_meet_104 rfl rfl rfl ?_
    refine j_aload0 107 dX12_meet_106 rfl ?_
    refine j_vi0v 110 dX12_meet_107 rfl rfl cl_X12_223 rfl rfl (c_putBack _) ?_
    refine j_iload4 112 dX12_meet_110 rfl ?_
    refine j_if_eq 119 115 dX12_meet_112 rfl rfl (fun h112 => ?_) (fun h112 => absurd (by decide) h112)
    refine j_aload0 120 dX12_meet_119 rfl ?_
    refine j_iconst 121 (v := 2) dX12_meet_120 rfl rfl ?_
    refine j_vi1f 124 dX12_meet_121 rfl rfl cl_X12_126 rfl rfl (c_finds2 _) ?_
    refine j_iret dX12_meet_124 rfl ?_
    exact ⟨rfl, _, hmk, rfl⟩
  · refine j_aload0 85 dX12_meet_84 rfl ?_
    refine j_iload1 86 dX12_meet_85 rfl ?_
    refine j_iconst 87 (v := 4) dX12_meet_86 rfl rfl ?_
    refine j_vi2f 90 dX12_meet_87 rfl rfl cl_X12_146 rfl rfl (c_of m a 4 ha (by decide)) ?_
    refine j_aload0 91 dX12_meet_90 rfl ?_
    refine j_iload2 92 dX12_meet_91 rfl ?_
    refine j_iconst 93 (v := 4) dX12_meet_92 rfl rfl ?_
    refine j_vi2f 96 dX12_meet_93 rfl rfl cl_X12_146 rfl rfl (c_of m b 4 hb (by decide)) ?_
    refine j_cmp_ne 103 99 dX12_meet_96 rfl rfl (fun h96 => ?_) (fun h96 => absurd h96 (fun q => hy ⟨h81, q⟩))
    refine j_iconst 104 (v := 0) dX12_meet_103 rfl rfl ?_
    refine j_istore4 106 dX12_meet_104 rfl rfl rfl ?_
    refine j_aload0 107 dX12_meet_106 rfl ?_
    refine j_vi0v 110 dX12_meet_107 rfl rfl cl_X12_223 rfl rfl (c_putBack _) ?_
    refine j_iload4 112 dX12_meet_110 rfl ?_
    refine j_if_eq 119 115 dX12_meet_112 rfl rfl (fun h112 => ?_) (fun h112 => absurd (by decide) h112)
    refine j_aload0 120 dX12_meet_119 rfl ?_
    refine j_iconst 121 (v := 2) dX12_meet_120 rfl rfl ?_
    refine j_vi1f 124 dX12_meet_121 rfl rfl cl_X12_126 rfl rfl (c_finds2 _) ?_
    refine j_iret dX12_meet_124 rfl ?_
    exact ⟨rfl, _, hmk, rfl⟩
set_option maxRecDepth 100000 in
theorem p_meet (m : Mem) (w : WF (m 69)) (hd : nb (m 69 1) 10000) (a b : Nat) (ha : a < 8) (hb : b < 8) (h1 : 0 ≤ nI a ∧ nI a ≤ m 69 0 - 1) (h2 : 0 ≤ nI b ∧ nI b ≤ m 69 0 - 1) (h3 : nI a ≠ nI b) (N : Nat) (hN : N ≤ 60) (hno : ∀ j, j < N → ¬ (fun e : Nat → Int32 => hf e a 4 ≠ -1 ∧ hf e a 4 = hf e b 4) (itD j (m 69))) (hyes : (fun e : Nat → Int32 => hf e a 4 ≠ -1 ∧ hf e a 4 = hf e b 4) (itD N (m 69))) : JM l g 6 mX12_meet [rf g 68, .int (nI a), .int (nI b)] m (RS (some (.int (nI N))) (MK m)) := by
  refine JM_of (ls := [some (rf g 68), some (.int (nI a)), some (.int (nI b)), none, none]) pn_X12 rfl rfl ?_
  refine j_aload0 1 dX12_meet_0 rfl ?_
  refine j_iload1 2 dX12_meet_1 rfl ?_
  refine j_vi1f 5 dX12_meet_2 rfl rfl cl_X12_199 rfl rfl (c_misHeir m _) ?_
  refine j_if_eq_bz 21 8 dX12_meet_5 rfl rfl (fun h5 => absurd h1 h5) (fun h5 => ?_)
  refine j_aload0 9 dX12_meet_8 rfl ?_
  refine j_iload2 10 dX12_meet_9 rfl ?_
  refine j_vi1f 13 dX12_meet_10 rfl rfl cl_X12_199 rfl rfl (c_misHeir m _) ?_
  refine j_if_eq_bz 21 16 dX12_meet_13 rfl rfl (fun h13 => absurd h2 h13) (fun h13 => ?_)
  refine j_iload1 17 dX12_meet_16 rfl ?_
  refine j_iload2 18 dX12_meet_17 rfl ?_
  refine j_cmp_ne 27 21 dX12_meet_18 rfl rfl (fun h18 => ?_) (fun h18 => absurd h18 h3)
  refine j_aload0 28 dX12_meet_27 rfl ?_
  refine j_vi0v 31 dX12_meet_28 rfl rfl cl_X12_226 rfl rfl (c_keepAside m) ?_
  refine j_iconst 32 (v := 0) dX12_meet_31 rfl rfl ?_
  refine j_istore3 33 dX12_meet_32 rfl rfl rfl ?_
  exact lm_meet a b ha hb (m 69) w hd _ N hN hno (fun m1 r1 s1 => om_meet a b ha hb m m1 w N hN hyes  r1 s1) N 0 _ (Nat.zero_add _) (upR_n (by decide)) Sm.rf
set_option maxRecDepth 100000 in
theorem q_meet (m : Mem) (w : WF (m 69)) (hd : nb (m 69 1) 10000) (a b : Nat) (ha : a < 8) (hb : b < 8) (h1 : 0 ≤ nI a ∧ nI a ≤ m 69 0 - 1) (h2 : 0 ≤ nI b ∧ nI b ≤ m 69 0 - 1) (h3 : nI a ≠ nI b) (hno : ∀ j, j < 61 → ¬ (fun e : Nat → Int32 => hf e a 4 ≠ -1 ∧ hf e a 4 = hf e b 4) (itD j (m 69))) : JM l g 6 mX12_meet [rf g 68, .int (nI a), .int (nI b)] m (RS (some (.int (-1000000002))) (fun m3 => ∃ m2, MK m m2 ∧ m3 = errM 2 m2)) := by
  refine JM_of (ls := [some (rf g 68), some (.int (nI a)), some (.int (nI b)), none, none]) pn_X12 rfl rfl ?_
  refine j_aload0 1 dX12_meet_0 rfl ?_
  refine j_iload1 2 dX12_meet_1 rfl ?_
  refine j_vi1f 5 dX12_meet_2 rfl rfl cl_X12_199 rfl rfl (c_misHeir m _) ?_
  refine j_if_eq_bz 21 8 dX12_meet_5 rfl rfl (fun h5 => absurd h1 h5) (fun h5 => ?_)
  refine j_aload0 9 dX12_meet_8 rfl ?_
  refine j_iload2 10 dX12_meet_9 rfl ?_
  refine j_vi1f 13 dX12_meet_10 rfl rfl cl_X12_199 rfl rfl (c_misHeir m _) ?_
  refine j_if_eq_bz 21 16 dX12_meet_13 rfl rfl (fun h13 => absurd h2 h13) (fun h13 => ?_)
  refine j_iload1 17 dX12_meet_16 rfl ?_
  refine j_iload2 18 dX12_meet_17 rfl ?_
  refine j_cmp_ne 27 21 dX12_meet_18 rfl rfl (fun h18 => ?_) (fun h18 => absurd h18 h3)
  refine j_aload0 28 dX12_meet_27 rfl ?_
  refine j_vi0v 31 dX12_meet_28 rfl rfl cl_X12_226 rfl rfl (c_keepAside m) ?_
  refine j_iconst 32 (v := 0) dX12_meet_31 rfl rfl ?_
  refine j_istore3 33 dX12_meet_32 rfl rfl rfl ?_
  exact lm_meet a b ha hb (m 69) w hd _ 60 (by decide) (fun j hj => hno j (by omega)) (fun m1 r1 s1 => nm_meet a b ha hb m m1 w hno r1 s1) 60 0 _ (Nat.zero_add _) (upR_n (by decide)) Sm.rf
set_option maxRecDepth 100000 in
theorem oc_first (s wh : Nat) (hs16 : s < 16) (d : Nat → Int32) (w0 : WF d) (m0 m : Mem) (N : Nat) (hN : N ≤ 60) (hyes : (fun e : Nat → Int32 => setF (fun h => hf e h 4 = nI s) (hn e) ≠ 0) (itD N d)) (i0 : Nat) (h0 : i0 < 8) (hb : bitf (setF (fun h => hf (itD N d) h 4 = nI s) (hn (itD N d))) i0 ≠ 0) (hl : ∀ j, j < i0 → bitf (setF (fun h => hf (itD N d) h 4 = nI s) (hn (itD N d))) j = 0) (hT : TR 18 m (itD N d)) (hs : Sm thS m0 m) (o : Option Value) : J l g 6 mX11_first 29 [some (rf g 0), some (.int (nI s)), some (.int (nI wh)), some (.int (nI N)), o] [] m (RS (some (.int (if nI wh = 0 then nI N else nI i0))) (Sm thS m0)) := by
  have w := itD_wf N w0
  refine j_iload3 30 dX11_first_29 rfl ?_
  refine j_bipush 32 (v := 60) dX11_first_30 rfl rfl ?_
  refine j_cmp_gt 81 35 dX11_first_32 rfl rfl (fun h32 => absurd h32 (nI_nlt (a := 60) (b := N) (by omega) (by decide))) (fun h32 => ?_)
  refine j_aload0 36 dX11_first_35 rfl ?_
  refine j_getR 39 dX11_first_36 rfl fl_X11_39 rfl rfl ?_
  refine j_iload1 40 dX11_first_39 rfl ?_
  refine j_vi1f 43 dX11_first_40 rfl rfl cl_X11_96 rfl rfl (c_dustAt_18 m (itD N d) w _ (nb_m1 ⟨s, hs16, rfl⟩ (by decide)) hT) ?_
  refine j_istore4 45 dX11_first_43 rfl rfl rfl ?_
  refine j_iload4 47 dX11_first_45 rfl ?_
  refine j_if_eq 64 50 dX11_first_47 rfl rfl (fun h47 => absurd h47 hyes) (fun h47 => ?_)
  refine j_iload2 51 dX11_first_50 rfl ?_
  refine j_if_ne 58 54 dX11_first_51 rfl rfl (fun h51 => ?_) (fun h51 => ?_)
  · refine j_iload4 60 dX11_first_58 rfl ?_
    refine j_st1f 63 dX11_first_60 rfl rfl cl_X11_220 rfl (c_cleast m _ i0 h0 hb hl) ?_
    refine j_iret dX11_first_63 rfl ?_
    first | exact ⟨by rw [if_neg h51], hs⟩ | exact ⟨by rw [if_pos h51], hs⟩
  · refine j_iload3 55 dX11_first_54 rfl ?_
    refine j_goto 63 dX11_first_55 rfl ?_
    refine j_iret dX11_first_63 rfl ?_
    first | exact ⟨by rw [if_neg h51], hs⟩ | exact ⟨by rw [if_pos h51], hs⟩
set_option maxRecDepth 100000 in
theorem nc_first (s wh : Nat) (hs16 : s < 16) (m0 m : Mem) (hs : Sm thS m0 m) (o : Option Value) : J l g 6 mX11_first 29 [some (rf g 0), some (.int (nI s)), some (.int (nI wh)), some (.int (nI 61)), o] [] m (RS (some (.int (-1000000002))) (fun m2 => ∃ m', Sm thS m0 m' ∧ m2 = errC 2 m')) := by
  refine j_iload3 30 dX11_first_29 rfl ?_
  refine j_bipush 32 (v := 60) dX11_first_30 rfl rfl ?_
  refine j_cmp_gt 81 35 dX11_first_32 rfl rfl (fun h32 => ?_) (fun h32 => absurd (by decide) h32)
  refine j_aload0 82 dX11_first_81 rfl ?_
  refine j_ldc 84 dX11_first_82 rfl kc_X11_223 ?_
  refine j_vi1f 87 dX11_first_84 rfl rfl cl_X11_82 rfl rfl (c_err2 m) ?_
  refine j_iret dX11_first_87 rfl ?_
  exact ⟨rfl, m, hs, rfl⟩
set_option maxRecDepth 100000 in
theorem o_first (m : Mem) (d : Nat → Int32) (w : WF d) (hT : TR 9 m d) (hP : PR 36 m d) (s wh : Nat) (hs16 : s < 16) (h2 : 0 ≤ nI wh ∧ nI wh ≤ 1) (N : Nat) (hN : N ≤ 60) (hno : ∀ j, j < N → ¬ (fun e : Nat → Int32 => setF (fun h => hf e h 4 = nI s) (hn e) ≠ 0) (itD j d)) (hyes : (fun e : Nat → Int32 => setF (fun h => hf e h 4 = nI s) (hn e) ≠ 0) (itD N d)) (i0 : Nat) (h0 : i0 < 8) (hb : bitf (setF (fun h => hf (itD N d) h 4 = nI s) (hn (itD N d))) i0 ≠ 0) (hl : ∀ j, j < i0 → bitf (setF (fun h => hf (itD N d) h 4 = nI s) (hn (itD N d))) j = 0) : JM l g 6 mX11_first [rf g 0, .int (nI s), .int (nI wh)] m (RS (some (.int (if nI wh = 0 then nI N else nI i0))) (Sm thS m)) := by
  refine JM_of (ls := [some (rf g 0), some (.int (nI s)), some (.int (nI wh)), none, none]) pn_X11 rfl rfl ?_
  refine j_iload1 1 dX11_first_0 rfl ?_
  refine j_st1f 4 dX11_first_1 rfl rfl cl_X11_77 rfl (c_isSill m _) ?_
  refine j_if_eq_bz 16 7 dX11_first_4 rfl rfl (fun h4 => absurd ((rngN 15 (by decide)).mpr ⟨s, by omega, rfl⟩) h4) (fun h4 => ?_)
  refine j_iload2 8 dX11_first_7 rfl ?_
  refine j_iconst 9 (v := 0) dX11_first_8 rfl rfl ?_
  refine j_iconst 10 (v := 1) dX11_first_9 rfl rfl ?_
  refine j_st3f 13 dX11_first_10 rfl rfl cl_X11_86 rfl (c_within m _ 0 1) ?_
  refine j_if_ne_bz 23 16 dX11_first_13 rfl rfl (fun h13 => ?_) (fun h13 => absurd h2 h13)
  refine j_aload0 24 dX11_first_23 rfl ?_
  refine j_vi0w 27 dX11_first_24 rfl rfl cl_X11_217 rfl rfl (c_think m) (fun m24 q24 => ?_)
  refine j_iconst 28 (v := 0) dX11_first_27 rfl rfl ?_
  refine j_istore3 29 dX11_first_28 rfl rfl rfl ?_
  obtain ⟨l0, l1⟩ := LR2 hP (q24.2 39 (by decide)) (q24.2 40 (by decide)) (q24.2 43 (by decide)) (q24.2 44 (by decide))
  exact lq_first s wh hs16 d w m N (by omega) hno (fun m1 hT1 hl0 hl1 hs1 o => oc_first s wh hs16 d w m m1 N hN hyes i0 h0 hb hl hT1 hs1 o) N 0 m24 none (Nat.zero_add _) (q24.1 d hT) l0 l1 (q24.2.mono (by decide))
set_option maxRecDepth 100000 in
theorem n_first (m : Mem) (d : Nat → Int32) (w : WF d) (hT : TR 9 m d) (hP : PR 36 m d) (s wh : Nat) (hs16 : s < 16) (h2 : 0 ≤ nI wh ∧ nI wh ≤ 1) (hno : ∀ j, j < 61 → ¬ (fun e : Nat → Int32 => setF (fun h => hf e h 4 = nI s) (hn e) ≠ 0) (itD j d)) : JM l g 6 mX11_first [rf g 0, .int (nI s), .int (nI wh)] m (RS (some (.int (-1000000002))) (fun m2 => ∃ m', Sm thS m m' ∧ m2 = errC 2 m')) := by
  refine JM_of (ls := [some (rf g 0), some (.int (nI s)), some (.int (nI wh)), none, none]) pn_X11 rfl rfl ?_
  refine j_iload1 1 dX11_first_0 rfl ?_
  refine j_st1f 4 dX11_first_1 rfl rfl cl_X11_77 rfl (c_isSill m _) ?_
  refine j_if_eq_bz 16 7 dX11_first_4 rfl rfl (fun h4 => absurd ((rngN 15 (by decide)).mpr ⟨s, by omega, rfl⟩) h4) (fun h4 => ?_)
  refine j_iload2 8 dX11_first_7 rfl ?_
  refine j_iconst 9 (v := 0) dX11_first_8 rfl rfl ?_
  refine j_iconst 10 (v := 1) dX11_first_9 rfl rfl ?_
  refine j_st3f 13 dX11_first_10 rfl rfl cl_X11_86 rfl (c_within m _ 0 1) ?_
  refine j_if_ne_bz 23 16 dX11_first_13 rfl rfl (fun h13 => ?_) (fun h13 => absurd h2 h13)
  refine j_aload0 24 dX11_first_23 rfl ?_
  refine j_vi0w 27 dX11_first_24 rfl rfl cl_X11_217 rfl rfl (c_think m) (fun m24 q24 => ?_)
  refine j_iconst 28 (v := 0) dX11_first_27 rfl rfl ?_
  refine j_istore3 29 dX11_first_28 rfl rfl rfl ?_
  obtain ⟨l0, l1⟩ := LR2 hP (q24.2 39 (by decide)) (q24.2 40 (by decide)) (q24.2 43 (by decide)) (q24.2 44 (by decide))
  exact lq_first s wh hs16 d w m 61 (by omega) hno (fun m1 hT1 hl0 hl1 hs1 o => nc_first s wh hs16 m m1 hs1 o) 61 0 m24 none (Nat.zero_add _) (q24.1 d hT) l0 l1 (q24.2.mono (by decide))
set_option maxRecDepth 100000 in
theorem om_first (s wh : Nat) (hs16 : s < 16) (m0 m : Mem) (w0 : WF (m0 69)) (N : Nat) (hN : N ≤ 60) (hyes : (fun e : Nat → Int32 => setF (fun h => hf e h 4 = nI s) (hn e) ≠ 0) (itD N (m0 69))) (i0 : Nat) (h0 : i0 < 8) (hb : bitf (setF (fun h => hf (itD N (m0 69)) h 4 = nI s) (hn (itD N (m0 69)))) i0 ≠ 0) (hl : ∀ j, j < i0 → bitf (setF (fun h => hf (itD N (m0 69)) h 4 = nI s) (hn (itD N (m0 69)))) j = 0) (hm : m 69 = itD N (m0 69)) (hs : Sm [69, 73, 75] (upR m0 71 (rst (m0 69) (m0 71))) m) : J l g 6 mX12_first 29 [some (rf g 68), some (.int (nI s)), some (.int (nI wh)), some (.int (nI N)), none] [] m (RS (some (.int (if nI wh = 0 then nI N else nI i0))) (MK m0)) := by
  have w : WF (m 69) := by rw [hm]; exact itD_wf N w0
  have hy : (fun e : Nat → Int32 => setF (fun h => hf e h 4 = nI s) (hn e) ≠ 0) (m 69) := by rw [hm]; exact hyes
  have hmk : MK m0 (upR m 69 (rst (m 71) (m 69))) := ⟨by rw [upR_s, hs 71 (by decide), upR_s, hm, rst_it w0, rst_rst], ((Sm.rf.row (by decide)).trans (hs.mono (by decide))).row (by decide)⟩
  refine j_iload3 30 dX12_first_29 rfl ?_
  refine j_bipush 32 (v := 60) dX12_first_30 rfl rfl ?_
  skip
  refine j_cmp_ge 53 35 dX12_first_32 rfl rfl (fun h32 => ?_) (fun h32 => ?_)
  · refine j_aload0 54 dX12_first_53 rfl ?_
    refine j_iload1 55 dX12_first_54 rfl ?_
    refine j_vi1f 58 dX12_first_55 rfl rfl cl_X12_184 rfl rfl (c_lying m _ w) ?_
    refine j_istore4 60 dX12_first_58 rfl rfl rfl ?_
    refine j_aload0 61 dX12_first_60 rfl ?_
    refine j_vi0v 64 dX12_first_61 rfl rfl cl_X12_223 rfl rfl (c_putBack _) ?_
    refine j_iload4 66 dX12_first_64 rfl ?_
    refine j_if_ne 77 69 dX12_first_66 rfl rfl (fun h66 => ?_) (fun h66 => absurd h66 hy)
    refine j_iload2 78 dX12_first_77 rfl ?_
    refine j_if_ne 85 81 dX12_first_78 rfl rfl (fun h78 => ?_) (fun h78 => ?_)
    · refine j_iload4 87 dX12_first_85 rfl ?_
      refine j_st1f 90 dX12_first_87 rfl rfl cl_X12_235 rfl (c_mleast _ _ i0 h0 (by rw [hm]; exact hb) (by rw [hm]; exact hl)) ?_
      refine j_iret dX12_first_90 rfl ?_
      first | exact ⟨by rw [if_neg h78], hmk⟩ | exact ⟨by rw [if_pos h78], hmk⟩
    · refine j_iload3 82 dX12_first_81 rfl ?_
      refine j_goto 90 dX12_first_82 rfl ?_
      refine j_iret dX12_first_90 rfl ?_
      first | exact ⟨by rw [if_neg h78], hmk⟩ | exact ⟨by rw [if_pos h78], hmk⟩
  · refine j_aload0 36 dX12_first_35 rfl ?_
    refine j_iload1 37 dX12_first_36 rfl ?_
    refine j_vi1f 40 dX12_first_37 rfl rfl cl_X12_184 rfl rfl (c_lying m _ w) ?_
    refine j_if_ne 53 43 dX12_first_40 rfl rfl (fun h40 => ?_) (fun h40 => absurd h40 hy)
    refine j_aload0 54 dX12_first_53 rfl ?_
    refine j_iload1 55 dX12_first_54 rfl ?_
    refine j_vi1f 58 dX12_first_55 rfl rfl cl_X12_184 rfl rfl (c_lying m _ w) ?_
    refine j_istore4 60 dX12_first_58 rfl rfl rfl ?_
    refine j_aload0 61 dX12_first_60 rfl ?_
    refine j_vi0v 64 dX12_first_61 rfl rfl cl_X12_223 rfl rfl (c_putBack _) ?_
    refine j_iload4 66 dX12_first_64 rfl ?_
    refine j_if_ne 77 69 dX12_first_66 rfl rfl (fun h66 => ?_) (fun h66 => absurd h66 hy)
    refine j_iload2 78 dX12_first_77 rfl ?_
    refine j_if_ne 85 81 dX12_first_78 rfl rfl (fun h78 => ?_) (fun h78 => ?_)
    · refine j_iload4 87 dX12_first_85 rfl ?_
      refine j_st1f 90 dX12_first_87 rfl rfl cl_X12_235 rfl (c_mleast _ _ i0 h0 (by rw [hm]; exact hb) (by rw [hm]; exact hl)) ?_
      refine j_iret dX12_first_90 rfl ?_
      first | exact ⟨by rw [if_neg h78], hmk⟩ | exact ⟨by rw [if_pos h78], hmk⟩
    · refine j_iload3 82 dX12_first_81 rfl ?_
      refine j_goto 90 dX12_first_82 rfl ?_
      refine j_iret dX12_first_90 rfl ?_
      first | exact ⟨by rw [if_neg h78], hmk⟩ | exact ⟨by rw [if_pos h78], hmk⟩
set_option maxRecDepth 100000 in
theorem nm_first (s wh : Nat) (hs16 : s < 16) (m0 m : Mem) (w0 : WF (m0 69)) (hno : ∀ j, j < 61 → ¬ (fun e : Nat → Int32 => setF (fun h => hf e h 4 = nI s) (hn e) ≠ 0) (itD j (m0 69))) (hm : m 69 = itD 60 (m0 69)) (hs : Sm [69, 73, 75] (upR m0 71 (rst (m0 69) (m0 71))) m) : J l g 6 mX12_first 29 [some (rf g 68), some (.int (nI s)), some (.int (nI wh)), some (.int (nI 60)), none] [] m (RS (some (.int (-1000000002))) (fun m3 => ∃ m2, MK m0 m2 ∧ m3 = errM 2 m2)) := by
  have w : WF (m 69) := by rw [hm]; exact itD_wf 60 w0
  have hy : ¬ (fun e : Nat → Int32 => setF (fun h => hf e h 4 = nI s) (hn e) ≠ 0) (m 69) := by rw [hm]; exact hno 60 (by decide)
  have hmk : MK m0 (upR m 69 (rst (m 71) (m 69))) := ⟨by rw [upR_s, hs 71 (by decide), upR_s, hm, rst_it w0, rst_rst], ((Sm.rf.row (by decide)).trans (hs.mono (by decide))).row (by decide)⟩
  refine j_iload3 30 dX12_first_29 rfl ?_
  refine j_bipush 32 (v := 60) dX12_first_30 rfl rfl ?_
  refine j_cmp_ge 53 35 dX12_first_32 rfl rfl (fun h32 => ?_) (fun h32 => absurd (by decide) h32)
  refine j_aload0 54 dX12_first_53 rfl ?_
  refine j_iload1 55 dX12_first_54 rfl ?_
  refine j_vi1f 58 dX12_first_55 rfl rfl cl_X12_184 rfl rfl (c_lying m _ w) ?_
  refine j_istore4 60 dX12_first_58 rfl rfl rfl ?_
  refine j_aload0 61 dX12_first_60 rfl ?_
  refine j_vi0v 64 dX12_first_61 rfl rfl cl_X12_223 rfl rfl (c_putBack _) ?_
  refine j_iload4 66 dX12_first_64 rfl ?_
  refine j_if_ne 77 69 dX12_first_66 rfl rfl (fun h66 => absurd h66 hy) (fun h66 => ?_)
  refine j_aload0 70 dX12_first_69 rfl ?_
  refine j_iconst 71 (v := 2) dX12_first_70 rfl rfl ?_
  refine j_vi1f 74 dX12_first_71 rfl rfl cl_X12_126 rfl rfl (c_finds2 _) ?_
  refine j_goto 90 dX12_first_74 rfl ?_
  refine j_iret dX12_first_90 rfl ?_
  exact ⟨rfl, _, hmk, rfl⟩
set_option maxRecDepth 100000 in
theorem p_first (m : Mem) (w : WF (m 69)) (hd : nb (m 69 1) 10000) (s wh : Nat) (hs16 : s < 16) (h2 : 0 ≤ nI wh ∧ nI wh ≤ 1) (N : Nat) (hN : N ≤ 60) (hno : ∀ j, j < N → ¬ (fun e : Nat → Int32 => setF (fun h => hf e h 4 = nI s) (hn e) ≠ 0) (itD j (m 69))) (hyes : (fun e : Nat → Int32 => setF (fun h => hf e h 4 = nI s) (hn e) ≠ 0) (itD N (m 69))) (i0 : Nat) (h0 : i0 < 8) (hb : bitf (setF (fun h => hf (itD N (m 69)) h 4 = nI s) (hn (itD N (m 69)))) i0 ≠ 0) (hl : ∀ j, j < i0 → bitf (setF (fun h => hf (itD N (m 69)) h 4 = nI s) (hn (itD N (m 69)))) j = 0) : JM l g 6 mX12_first [rf g 68, .int (nI s), .int (nI wh)] m (RS (some (.int (if nI wh = 0 then nI N else nI i0))) (MK m)) := by
  refine JM_of (ls := [some (rf g 68), some (.int (nI s)), some (.int (nI wh)), none, none]) pn_X12 rfl rfl ?_
  refine j_iload1 1 dX12_first_0 rfl ?_
  refine j_st1f 4 dX12_first_1 rfl rfl cl_X12_174 rfl (c_misSill m _) ?_
  refine j_if_eq_bz 17 7 dX12_first_4 rfl rfl (fun h4 => absurd ((rngN 15 (by decide)).mpr ⟨s, by omega, rfl⟩) h4) (fun h4 => ?_)
  refine j_iload2 8 dX12_first_7 rfl ?_
  refine j_i2l 9 dX12_first_8 rfl ?_
  refine j_lconst 10 (v := 0) dX12_first_9 rfl rfl ?_
  refine j_lconst 11 (v := 1) dX12_first_10 rfl rfl ?_
  refine j_st3f 14 dX12_first_11 rfl rfl cl_X12_47 rfl (c_in m _ 0 1) ?_
  refine j_if_ne_bz 23 17 dX12_first_14 rfl rfl (fun h14 => ?_) (fun h14 => absurd h2 h14)
  refine j_aload0 24 dX12_first_23 rfl ?_
  refine j_vi0v 27 dX12_first_24 rfl rfl cl_X12_226 rfl rfl (c_keepAside m) ?_
  refine j_iconst 28 (v := 0) dX12_first_27 rfl rfl ?_
  refine j_istore3 29 dX12_first_28 rfl rfl rfl ?_
  exact lm_first s wh hs16 (m 69) w hd _ N hN hno (fun m1 r1 s1 => om_first s wh hs16 m m1 w N hN hyes i0 h0 hb hl r1 s1) N 0 _ (Nat.zero_add _) (upR_n (by decide)) Sm.rf
set_option maxRecDepth 100000 in
theorem q_first (m : Mem) (w : WF (m 69)) (hd : nb (m 69 1) 10000) (s wh : Nat) (hs16 : s < 16) (h2 : 0 ≤ nI wh ∧ nI wh ≤ 1) (hno : ∀ j, j < 61 → ¬ (fun e : Nat → Int32 => setF (fun h => hf e h 4 = nI s) (hn e) ≠ 0) (itD j (m 69))) : JM l g 6 mX12_first [rf g 68, .int (nI s), .int (nI wh)] m (RS (some (.int (-1000000002))) (fun m3 => ∃ m2, MK m m2 ∧ m3 = errM 2 m2)) := by
  refine JM_of (ls := [some (rf g 68), some (.int (nI s)), some (.int (nI wh)), none, none]) pn_X12 rfl rfl ?_
  refine j_iload1 1 dX12_first_0 rfl ?_
  refine j_st1f 4 dX12_first_1 rfl rfl cl_X12_174 rfl (c_misSill m _) ?_
  refine j_if_eq_bz 17 7 dX12_first_4 rfl rfl (fun h4 => absurd ((rngN 15 (by decide)).mpr ⟨s, by omega, rfl⟩) h4) (fun h4 => ?_)
  refine j_iload2 8 dX12_first_7 rfl ?_
  refine j_i2l 9 dX12_first_8 rfl ?_
  refine j_lconst 10 (v := 0) dX12_first_9 rfl rfl ?_
  refine j_lconst 11 (v := 1) dX12_first_10 rfl rfl ?_
  refine j_st3f 14 dX12_first_11 rfl rfl cl_X12_47 rfl (c_in m _ 0 1) ?_
  refine j_if_ne_bz 23 17 dX12_first_14 rfl rfl (fun h14 => ?_) (fun h14 => absurd h2 h14)
  refine j_aload0 24 dX12_first_23 rfl ?_
  refine j_vi0v 27 dX12_first_24 rfl rfl cl_X12_226 rfl rfl (c_keepAside m) ?_
  refine j_iconst 28 (v := 0) dX12_first_27 rfl rfl ?_
  refine j_istore3 29 dX12_first_28 rfl rfl rfl ?_
  exact lm_first s wh hs16 (m 69) w hd _ 60 (by decide) (fun j hj => hno j (by omega)) (fun m1 r1 s1 => nm_first s wh hs16 m m1 w hno r1 s1) 60 0 _ (Nat.zero_add _) (upR_n (by decide)) Sm.rf
set_option maxRecDepth 100000 in
theorem e_meet (m : Mem) (a b : Int32) (c : ¬ ((0 ≤ a ∧ a < m 9 9 ∧ a < 8) ∧ (0 ≤ b ∧ b < m 9 9 ∧ b < 8) ∧ a ≠ b)) : JM l g 2 mX11_meet [rf g 0, .int a, .int b] m (RF (some (.int (-1000000001))) (errC 1 m)) := by
  refine JM_of (ls := [some (rf g 0), some (.int a), some (.int b), none]) pn_X11 rfl rfl ?_
  refine j_aload0 1 dX11_meet_0 rfl ?_
  refine j_iload1 2 dX11_meet_1 rfl ?_
  refine j_vi1f 5 dX11_meet_2 rfl rfl cl_X11_124 rfl rfl (c_isHeir m a) ?_
  refine j_if_eq_bz 21 8 dX11_meet_5 rfl rfl (fun h5 => ?_) (fun h5 => ?_)
  · refine j_aload0 22 dX11_meet_21 rfl ?_
    refine j_ldc 24 dX11_meet_22 rfl kc_X11_81 ?_
    refine j_vi1f 27 dX11_meet_24 rfl rfl cl_X11_82 rfl rfl (c_err1 m) ?_
    refine j_iret dX11_meet_27 rfl ?_
    exact ⟨rfl, rfl⟩
  · refine j_aload0 9 dX11_meet_8 rfl ?_
    refine j_iload2 10 dX11_meet_9 rfl ?_
    refine j_vi1f 13 dX11_meet_10 rfl rfl cl_X11_124 rfl rfl (c_isHeir m b) ?_
    refine j_if_eq_bz 21 16 dX11_meet_13 rfl rfl (fun h13 => ?_) (fun h13 => ?_)
    · refine j_aload0 22 dX11_meet_21 rfl ?_
      refine j_ldc 24 dX11_meet_22 rfl kc_X11_81 ?_
      refine j_vi1f 27 dX11_meet_24 rfl rfl cl_X11_82 rfl rfl (c_err1 m) ?_
      refine j_iret dX11_meet_27 rfl ?_
      exact ⟨rfl, rfl⟩
    · refine j_iload1 17 dX11_meet_16 rfl ?_
      refine j_iload2 18 dX11_meet_17 rfl ?_
      refine j_cmp_ne 28 21 dX11_meet_18 rfl rfl (fun h18 => ?_) (fun h18 => ?_)
      · exact absurd ⟨h5, h13, h18⟩ c
      · refine j_aload0 22 dX11_meet_21 rfl ?_
        refine j_ldc 24 dX11_meet_22 rfl kc_X11_81 ?_
        refine j_vi1f 27 dX11_meet_24 rfl rfl cl_X11_82 rfl rfl (c_err1 m) ?_
        refine j_iret dX11_meet_27 rfl ?_
        exact ⟨rfl, rfl⟩
set_option maxRecDepth 100000 in
theorem f_meet (m : Mem) (a b : Int32) (c : ¬ ((0 ≤ a ∧ a ≤ m 69 0 - 1) ∧ (0 ≤ b ∧ b ≤ m 69 0 - 1) ∧ a ≠ b)) : JM l g 2 mX12_meet [rf g 68, .int a, .int b] m (RF (some (.int (-1000000001))) (errM 1 m)) := by
  refine JM_of (ls := [some (rf g 68), some (.int a), some (.int b), none, none]) pn_X12 rfl rfl ?_
  refine j_aload0 1 dX12_meet_0 rfl ?_
  refine j_iload1 2 dX12_meet_1 rfl ?_
  refine j_vi1f 5 dX12_meet_2 rfl rfl cl_X12_199 rfl rfl (c_misHeir m a) ?_
  refine j_if_eq_bz 21 8 dX12_meet_5 rfl rfl (fun h5 => ?_) (fun h5 => ?_)
  · refine j_aload0 22 dX12_meet_21 rfl ?_
    refine j_iconst 23 (v := 1) dX12_meet_22 rfl rfl ?_
    refine j_vi1f 26 dX12_meet_23 rfl rfl cl_X12_126 rfl rfl (c_finds1 m) ?_
    refine j_iret dX12_meet_26 rfl ?_
    exact ⟨rfl, rfl⟩
  · refine j_aload0 9 dX12_meet_8 rfl ?_
    refine j_iload2 10 dX12_meet_9 rfl ?_
    refine j_vi1f 13 dX12_meet_10 rfl rfl cl_X12_199 rfl rfl (c_misHeir m b) ?_
    refine j_if_eq_bz 21 16 dX12_meet_13 rfl rfl (fun h13 => ?_) (fun h13 => ?_)
    · refine j_aload0 22 dX12_meet_21 rfl ?_
      refine j_iconst 23 (v := 1) dX12_meet_22 rfl rfl ?_
      refine j_vi1f 26 dX12_meet_23 rfl rfl cl_X12_126 rfl rfl (c_finds1 m) ?_
      refine j_iret dX12_meet_26 rfl ?_
      exact ⟨rfl, rfl⟩
    · refine j_iload1 17 dX12_meet_16 rfl ?_
      refine j_iload2 18 dX12_meet_17 rfl ?_
      refine j_cmp_ne 27 21 dX12_meet_18 rfl rfl (fun h18 => ?_) (fun h18 => ?_)
      · exact absurd ⟨h5, h13, h18⟩ c
      · refine j_aload0 22 dX12_meet_21 rfl ?_
        refine j_iconst 23 (v := 1) dX12_meet_22 rfl rfl ?_
        refine j_vi1f 26 dX12_meet_23 rfl rfl cl_X12_126 rfl rfl (c_finds1 m) ?_
        refine j_iret dX12_meet_26 rfl ?_
        exact ⟨rfl, rfl⟩
theorem op_meet {m : Mem} (I : INV m) (a b : Int32) : OPr l g mX11_meet mX12_meet [.int a, .int b] m := by
  obtain ⟨⟨wf, hd, hT, hP⟩, -⟩ := id I
  by_cases c : (0 ≤ a ∧ a < m 69 0 ∧ a < 8) ∧ (0 ≤ b ∧ b < m 69 0 ∧ b < 8) ∧ a ≠ b
  · obtain ⟨h1, h2, h3⟩ := c
    obtain ⟨i, hi, rfl⟩ := (isH_c wf).mp h1
    obtain ⟨j, hj, rfl⟩ := (isH_c wf).mp h2
    have n8 := wf.n.1
    have hM1 := (isH_m wf).mpr ⟨i, hi, rfl⟩
    have hM2 := (isH_m wf).mpr ⟨j, hj, rfl⟩
    rcases find60 (fun e => hf e i 4 ≠ -1 ∧ hf e i 4 = hf e j 4) (m 69) with ⟨N, hN, hy, hno⟩ | hno
    · exact OPr_ask (d2 := 6) I (by decide) (by decide) (o_meet m (m 69) wf hT hP i j (by omega) (by omega) (by rw [hT.1]; exact h1) (by rw [hT.1]; exact h2) h3 N hN hno hy) (fun m' s => p_meet m' (by rw [dn s]; exact wf) (by rw [dn s]; exact hd) i j (by omega) (by omega) (by rw [dn s]; exact hM1) (by rw [dn s]; exact hM2) h3 N hN (by rw [dn s]; exact hno) (by rw [dn s]; exact hy))
    · exact OPr_none (d2 := 6) I (by decide) (by decide) (by decide) (n_meet m (m 69) wf hT hP i j (by omega) (by omega) (by rw [hT.1]; exact h1) (by rw [hT.1]; exact h2) h3 hno) (fun m' s => by
        have e : errC 2 m' 69 = m 69 := (errC_o (by decide)).trans (dn s)
        exact q_meet (errC 2 m') (by rw [e]; exact wf) (by rw [e]; exact hd) i j (by omega) (by omega) (by rw [e]; exact hM1) (by rw [e]; exact hM2) h3 (by rw [e]; exact hno))
  · exact OPr_err I (by decide) (by decide) (by decide) (e_meet m a b (by rw [hT.1]; exact c)) (f_meet _ a b (fun q => c ⟨(isH_c wf).mpr ((isH_m wf).mp (by have := q.1; rw [errC_o (by decide)] at this; exact this)), (isH_c wf).mpr ((isH_m wf).mp (by have := q.2.1; rw [errC_o (by decide)] at this; exact this)), q.2.2⟩))
set_option maxRecDepth 100000 in
theorem e_first (m : Mem) (a b : Int32) (c : ¬ ((0 ≤ a ∧ a ≤ 15) ∧ 0 ≤ b ∧ b ≤ 1)) : JM l g 2 mX11_first [rf g 0, .int a, .int b] m (RF (some (.int (-1000000001))) (errC 1 m)) := by
  refine JM_of (ls := [some (rf g 0), some (.int a), some (.int b), none, none]) pn_X11 rfl rfl ?_
  refine j_iload1 1 dX11_first_0 rfl ?_
  refine j_st1f 4 dX11_first_1 rfl rfl cl_X11_77 rfl (c_isSill m a) ?_
  refine j_if_eq_bz 16 7 dX11_first_4 rfl rfl (fun h4 => ?_) (fun h4 => ?_)
  · refine j_aload0 17 dX11_first_16 rfl ?_
    refine j_ldc 19 dX11_first_17 rfl kc_X11_81 ?_
    refine j_vi1f 22 dX11_first_19 rfl rfl cl_X11_82 rfl rfl (c_err1 m) ?_
    refine j_iret dX11_first_22 rfl ?_
    exact ⟨rfl, rfl⟩
  · refine j_iload2 8 dX11_first_7 rfl ?_
    refine j_iconst 9 (v := 0) dX11_first_8 rfl rfl ?_
    refine j_iconst 10 (v := 1) dX11_first_9 rfl rfl ?_
    refine j_st3f 13 dX11_first_10 rfl rfl cl_X11_86 rfl (c_within m b 0 1) ?_
    refine j_if_ne_bz 23 16 dX11_first_13 rfl rfl (fun h13 => ?_) (fun h13 => ?_)
    · exact absurd ⟨h4, h13⟩ c
    · refine j_aload0 17 dX11_first_16 rfl ?_
      refine j_ldc 19 dX11_first_17 rfl kc_X11_81 ?_
      refine j_vi1f 22 dX11_first_19 rfl rfl cl_X11_82 rfl rfl (c_err1 m) ?_
      refine j_iret dX11_first_22 rfl ?_
      exact ⟨rfl, rfl⟩
set_option maxRecDepth 100000 in
theorem f_first (m : Mem) (a b : Int32) (c : ¬ ((0 ≤ a ∧ a ≤ 15) ∧ 0 ≤ b ∧ b ≤ 1)) : JM l g 2 mX12_first [rf g 68, .int a, .int b] m (RF (some (.int (-1000000001))) (errM 1 m)) := by
  refine JM_of (ls := [some (rf g 68), some (.int a), some (.int b), none, none]) pn_X12 rfl rfl ?_
  refine j_iload1 1 dX12_first_0 rfl ?_
  refine j_st1f 4 dX12_first_1 rfl rfl cl_X12_174 rfl (c_misSill m a) ?_
  refine j_if_eq_bz 17 7 dX12_first_4 rfl rfl (fun h4 => ?_) (fun h4 => ?_)
  · refine j_aload0 18 dX12_first_17 rfl ?_
    refine j_iconst 19 (v := 1) dX12_first_18 rfl rfl ?_
    refine j_vi1f 22 dX12_first_19 rfl rfl cl_X12_126 rfl rfl (c_finds1 m) ?_
    refine j_iret dX12_first_22 rfl ?_
    exact ⟨rfl, rfl⟩
  · refine j_iload2 8 dX12_first_7 rfl ?_
    refine j_i2l 9 dX12_first_8 rfl ?_
    refine j_lconst 10 (v := 0) dX12_first_9 rfl rfl ?_
    refine j_lconst 11 (v := 1) dX12_first_10 rfl rfl ?_
    refine j_st3f 14 dX12_first_11 rfl rfl cl_X12_47 rfl (c_in m b 0 1) ?_
    refine j_if_ne_bz 23 17 dX12_first_14 rfl rfl (fun h14 => ?_) (fun h14 => ?_)
    · exact absurd ⟨h4, h14⟩ c
    · refine j_aload0 18 dX12_first_17 rfl ?_
      refine j_iconst 19 (v := 1) dX12_first_18 rfl rfl ?_
      refine j_vi1f 22 dX12_first_19 rfl rfl cl_X12_126 rfl rfl (c_finds1 m) ?_
      refine j_iret dX12_first_22 rfl ?_
      exact ⟨rfl, rfl⟩
theorem op_first {m : Mem} (I : INV m) (a b : Int32) : OPr l g mX11_first mX12_first [.int a, .int b] m := by
  obtain ⟨⟨wf, hd, hT, hP⟩, -⟩ := id I
  by_cases c : (0 ≤ a ∧ a ≤ 15) ∧ 0 ≤ b ∧ b ≤ 1
  · obtain ⟨h1, h2⟩ := c
    obtain ⟨s, hs, rfl⟩ := (rngN 15 (by decide)).mp h1
    obtain ⟨k, hk, rfl⟩ := (rngN 1 (by decide)).mp h2
    have n8 := wf.n.1
    rcases find60 (fun e => setF (fun h => hf e h 4 = nI s) (hn e) ≠ 0) (m 69) with ⟨N, hN, hy, hno⟩ | hno
    · obtain ⟨i0, z1, z2, z3⟩ := least_bit (fun h => hf (itD N (m 69)) h 4 = nI s) (n := hn (itD N (m 69))) (by rw [itn N wf]; exact n8) hy
      exact OPr_ask (d2 := 6) I (by decide) (by decide) (o_first m (m 69) wf hT hP s k (by omega) h2 N hN hno hy i0 z1 z2 z3) (fun m' q => p_first m' (by rw [dn q]; exact wf) (by rw [dn q]; exact hd) s k (by omega) h2 N hN (by rw [dn q]; exact hno) (by rw [dn q]; exact hy) i0 z1 (by rw [dn q]; exact z2) (by rw [dn q]; exact z3))
    · exact OPr_none (d2 := 6) I (by decide) (by decide) (by decide) (n_first m (m 69) wf hT hP s k (by omega) h2 hno) (fun m' q => by
        have e : errC 2 m' 69 = m 69 := (errC_o (by decide)).trans (dn q)
        exact q_first (errC 2 m') (by rw [e]; exact wf) (by rw [e]; exact hd) s k (by omega) h2 (by rw [e]; exact hno))
  · exact OPr_err I (by decide) (by decide) (by decide) (e_first m a b c) (f_first _ a b c)
end O10
