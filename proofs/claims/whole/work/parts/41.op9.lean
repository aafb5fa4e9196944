section O9
variable {l : Launch} {g : Gv}
set_option maxRecDepth 100000 in
theorem oc_bright (h : Nat) (hh : h < 8) (v : Int32) (d : Nat → Int32) (w0 : WF d) (m0 m : Mem) (N : Nat) (hN : N ≤ 60) (hyes : (fun e : Nat → Int32 => v ≤ hf e h 5) (itD N d))  (hT : TR 18 m (itD N d)) (hs : Sm thS m0 m) (o : Option Value) : J l g 6 mX11_bright 32 [some (rf g 0), some (.int (nI h)), some (.int v), some (.int (nI N))] [] m (RS (some (.int (nI N))) (Sm thS m0)) := by
  have w := itD_wf N w0
  refine j_iload3 33 dX11_bright_32 rfl ?_
  refine j_bipush 35 (v := 60) dX11_bright_33 rfl rfl ?_
  refine j_cmp_gt 70 38 dX11_bright_35 rfl rfl (fun h35 => absurd h35 (nI_nlt (a := 60) (b := N) (by omega) (by decide))) (fun h35 => ?_)
  refine j_aload0 39 dX11_bright_38 rfl ?_
  refine j_getR 42 dX11_bright_39 rfl fl_X11_39 rfl rfl ?_
  refine j_getR 45 dX11_bright_42 rfl fl_X11_142 rfl rfl ?_
  refine j_iload1 46 dX11_bright_45 rfl ?_
  refine j_iald 47 _ rfl hh dX11_bright_46 rfl rfl ?_
  refine j_iload2 48 dX11_bright_47 rfl ?_
  refine j_cmp_lt 53 51 dX11_bright_48 rfl rfl (fun h48 => absurd h48 (by rw [show m 26 h = hf (itD N d) h 5 from hT.2.2.2.2.2.2.2 h hh 5 (by decide)]; exact Int32.not_lt.mpr hyes)) (fun h48 => ?_)
  refine j_iload3 52 dX11_bright_51 rfl ?_
  refine j_iret dX11_bright_52 rfl ?_
  exact ⟨rfl, hs⟩
set_option maxRecDepth 100000 in
theorem nc_bright (h : Nat) (hh : h < 8) (v : Int32) (m0 m : Mem) (hs : Sm thS m0 m) (o : Option Value) : J l g 6 mX11_bright 32 [some (rf g 0), some (.int (nI h)), some (.int v), some (.int (nI 61))] [] m (RS (some (.int (-1000000002))) (fun m2 => ∃ m', Sm thS m0 m' ∧ m2 = errC 2 m')) := by
  refine j_iload3 33 dX11_bright_32 rfl ?_
  refine j_bipush 35 (v := 60) dX11_bright_33 rfl rfl ?_
  refine j_cmp_gt 70 38 dX11_bright_35 rfl rfl (fun h35 => ?_) (fun h35 => absurd (by decide) h35)
  refine j_aload0 71 dX11_bright_70 rfl ?_
  refine j_ldc 73 dX11_bright_71 rfl kc_X11_223 ?_
  refine j_vi1f 76 dX11_bright_73 rfl rfl cl_X11_82 rfl rfl (c_err2 m) ?_
  refine j_iret dX11_bright_76 rfl ?_
  exact ⟨rfl, m, hs, rfl⟩
set_option maxRecDepth 100000 in
theorem o_bright (m : Mem) (d : Nat → Int32) (w : WF d) (hT : TR 9 m d) (hP : PR 36 m d) (h : Nat) (hh : h < 8) (v : Int32) (h1 : 0 ≤ nI h ∧ nI h < m 9 9 ∧ nI h < 8) (h2 : 0 ≤ v ∧ v ≤ 9999) (N : Nat) (hN : N ≤ 60) (hno : ∀ j, j < N → ¬ (fun e : Nat → Int32 => v ≤ hf e h 5) (itD j d)) (hyes : (fun e : Nat → Int32 => v ≤ hf e h 5) (itD N d)) : JM l g 6 mX11_bright [rf g 0, .int (nI h), .int v] m (RS (some (.int (nI N))) (Sm thS m)) := by
  refine JM_of (ls := [some (rf g 0), some (.int (nI h)), some (.int v), none]) pn_X11 rfl rfl ?_
  refine j_aload0 1 dX11_bright_0 rfl ?_
  refine j_iload1 2 dX11_bright_1 rfl ?_
  refine j_vi1f 5 dX11_bright_2 rfl rfl cl_X11_124 rfl rfl (c_isHeir m _) ?_
  refine j_if_eq_bz 19 8 dX11_bright_5 rfl rfl (fun h5 => absurd h1 h5) (fun h5 => ?_)
  refine j_iload2 9 dX11_bright_8 rfl ?_
  refine j_iconst 10 (v := 0) dX11_bright_9 rfl rfl ?_
  refine j_sipush 13 (v := 9999) dX11_bright_10 rfl rfl ?_
  refine j_st3f 16 dX11_bright_13 rfl rfl cl_X11_86 rfl (c_within m v 0 9999) ?_
  refine j_if_ne_bz 26 19 dX11_bright_16 rfl rfl (fun h16 => ?_) (fun h16 => absurd h2 h16)
  refine j_aload0 27 dX11_bright_26 rfl ?_
  refine j_vi0w 30 dX11_bright_27 rfl rfl cl_X11_217 rfl rfl (c_think m) (fun m27 q27 => ?_)
  refine j_iconst 31 (v := 0) dX11_bright_30 rfl rfl ?_
  refine j_istore3 32 dX11_bright_31 rfl rfl rfl ?_
  obtain ⟨l0, l1⟩ := LR2 hP (q27.2 39 (by decide)) (q27.2 40 (by decide)) (q27.2 43 (by decide)) (q27.2 44 (by decide))
  exact lq_bright h hh v d w m N (by omega) hno (fun m1 hT1 hl0 hl1 hs1 o => oc_bright h hh v d w m m1 N hN hyes  hT1 hs1 o) N 0 m27 none (Nat.zero_add _) (q27.1 d hT) l0 l1 (q27.2.mono (by decide))
set_option maxRecDepth 100000 in
theorem n_bright (m : Mem) (d : Nat → Int32) (w : WF d) (hT : TR 9 m d) (hP : PR 36 m d) (h : Nat) (hh : h < 8) (v : Int32) (h1 : 0 ≤ nI h ∧ nI h < m 9 9 ∧ nI h < 8) (h2 : 0 ≤ v ∧ v ≤ 9999) (hno : ∀ j, j < 61 → ¬ (fun e : Nat → Int32 => v ≤ hf e h 5) (itD j d)) : JM l g 6 mX11_bright [rf g 0, .int (nI h), .int v] m (RS (some (.int (-1000000002))) (fun m2 => ∃ m', Sm thS m m' ∧ m2 = errC 2 m')) := by
  refine JM_of (ls := [some (rf g 0), some (.int (nI h)), some (.int v), none]) pn_X11 rfl rfl ?_
  refine j_aload0 1 dX11_bright_0 rfl ?_
  refine j_iload1 2 dX11_bright_1 rfl ?_
  refine j_vi1f 5 dX11_bright_2 rfl rfl cl_X11_124 rfl rfl (c_isHeir m _) ?_
  refine j_if_eq_bz 19 8 dX11_bright_5 rfl rfl (fun h5 => absurd h1 h5) (fun h5 => ?_)
  refine j_iload2 9 dX11_bright_8 rfl ?_
  refine j_iconst 10 (v := 0) dX11_bright_9 rfl rfl ?_
  refine j_sipush 13 (v := 9999) dX11_bright_10 rfl rfl ?_
  refine j_st3f 16 dX11_bright_13 rfl rfl cl_X11_86 rfl (c_within m v 0 9999) ?_
  refine j_if_ne_bz 26 19 dX11_bright_16 rfl rfl (fun h16 => ?_) (fun h16 => absurd h2 h16)
  refine j_aload0 27 dX11_bright_26 rfl ?_
  refine j_vi0w 30 dX11_bright_27 rfl rfl cl_X11_217 rfl rfl (c_think m) (fun m27 q27 => ?_)
  refine j_iconst 31 (v := 0) dX11_bright_30 rfl rfl ?_
  refine j_istore3 32 dX11_bright_31 rfl rfl rfl ?_
  obtain ⟨l0, l1⟩ := LR2 hP (q27.2 39 (by decide)) (q27.2 40 (by decide)) (q27.2 43 (by decide)) (q27.2 44 (by decide))
  exact lq_bright h hh v d w m 61 (by omega) hno (fun m1 hT1 hl0 hl1 hs1 o => nc_bright h hh v m m1 hs1 o) 61 0 m27 none (Nat.zero_add _) (q27.1 d hT) l0 l1 (q27.2.mono (by decide))
set_option maxRecDepth 100000 in
theorem om_bright (h : Nat) (hh : h < 8) (v : Int32) (m0 m : Mem) (w0 : WF (m0 69)) (N : Nat) (hN : N ≤ 60) (hyes : (fun e : Nat → Int32 => v ≤ hf e h 5) (itD N (m0 69)))  (hm : m 69 = itD N (m0 69)) (hs : Sm [69, 73, 75] (upR m0 71 (rst (m0 69) (m0 71))) m) : J l g 6 mX12_bright 32 [some (rf g 68), some (.int (nI h)), some (.int v), some (.int (nI N)), none] [] m (RS (some (.int (nI N))) (MK m0)) := by
  have w : WF (m 69) := by rw [hm]; exact itD_wf N w0
  have hy : (fun e : Nat → Int32 => v ≤ hf e h 5) (m 69) := by rw [hm]; exact hyes
  have hmk : MK m0 (upR m 69 (rst (m 71) (m 69))) := ⟨by rw [upR_s, hs 71 (by decide), upR_s, hm, rst_it w0, rst_rst], ((Sm.rf.row (by decide)).trans (hs.mono (by decide))).row (by decide)⟩
  refine j_iload3 33 dX12_bright_32 rfl ?_
  refine j_bipush 35 (v := 60) dX12_bright_33 rfl rfl ?_
  skip
  refine j_cmp_ge 58 38 dX12_bright_35 rfl rfl (fun h35 => ?_) (fun h35 => ?_)
  · refine j_aload0 59 dX12_bright_58 rfl ?_
    refine j_iload1 60 dX12_bright_59 rfl ?_
    refine j_iconst 61 (v := 5) dX12_bright_60 rfl rfl ?_
    refine j_vi2f 64 dX12_bright_61 rfl rfl cl_X12_146 rfl rfl (c_of m h 5 hh (by decide)) ?_
    refine j_iload2 65 dX12_bright_64 rfl ?_
    refine j_cmp_lt 72 68 dX12_bright_65 rfl rfl (fun h65 => absurd h65 (Int32.not_lt.mpr hy)) (fun h65 => ?_)
    refine j_iconst 69 (v := 1) dX12_bright_68 rfl rfl ?_
    refine j_goto 73 dX12_bright_69 rfl ?_
    refine j_istore4 75 dX12_bright_73 rfl rfl rfl ?_
    refine j_aload0 76 dX12_bright_75 rfl ?_
    refine j_vi0v 79 dX12_bright_76 rfl rfl cl_X12_223 rfl rfl (c_putBack _) ?_
    refine j_iload4 81 dX12_bright_79 rfl ?_
    refine j_if_eq 88 84 dX12_bright_81 rfl rfl (fun h81 => absurd h81 (by decide)) (fun h81 => ?_)
    refine j_iload3 85 dX12_bright_84 rfl ?_
    refine j_goto 93 dX12_bright_85 rfl ?_
    refine j_iret dX12_bright_93 rfl ?_
    exact ⟨rfl, hmk⟩
  · refine j_aload0 39 dX12_bright_38 rfl ?_
    refine j_iload1 40 dX12_bright_39 rfl ?_
    refine j_iconst 41 (v := 5) dX12_bright_40 rfl rfl ?_
    refine j_vi2f 44 dX12_bright_41 rfl rfl cl_X12_146 rfl rfl (c_of m h 5 hh (by decide)) ?_
    refine j_iload2 45 dX12_bright_44 rfl ?_
    refine j_cmp_ge 58 48 dX12_bright_45 rfl rfl (fun h45 => ?_) (fun h45 => absurd hy h45)
    refine j_aload0 59 dX12_bright_58 rfl ?_
    refine j_iload1 60 dX12_bright_59 rfl ?_
    refine j_iconst 61 (v := 5) dX12_bright_60 rfl rfl ?_
    refine j_vi2f 64 dX12_bright_61 rfl rfl cl_X12_146 rfl rfl (c_of m h 5 hh (by decide)) ?_
    refine j_iload2 65 dX12_bright_64 rfl ?_
    refine j_cmp_lt 72 68 dX12_bright_65 rfl rfl (fun h65 => absurd h65 (Int32.not_lt.mpr hy)) (fun h65 => ?_)
    refine j_iconst 69 (v := 1) dX12_bright_68 rfl rfl ?_
    refine j_goto 73 dX12_bright_69 rfl ?_
    refine j_istore4 75 dX12_bright_73 rfl rfl rfl ?_
    refine j_aload0 76 dX12_bright_75 rfl ?_
    refine j_vi0v 79 dX12_bright_76 rfl rfl cl_X12_223 rfl rfl (c_putBack _) ?_
    refine j_iload4 81 dX12_bright_79 rfl ?_
    refine j_if_eq 88 84 dX12_bright_81 rfl rfl (fun h81 => absurd h81 (by decide)) (fun h81 => ?_)
    refine j_iload3 85 dX12_bright_84 rfl ?_
    refine j_goto 93 dX12_bright_85 rfl ?_
    refine j_iret dX12_bright_93 rfl ?_
    exact ⟨rfl, hmk⟩
set_option maxRecDepth 100000 in
theorem nm_bright (h : Nat) (hh : h < 8) (v : Int32) (m0 m : Mem) (w0 : WF (m0 69)) (hno : ∀ j, j < 61 → ¬ (fun e : Nat → Int32 => v ≤ hf e h 5) (itD j (m0 69))) (hm : m 69 = itD 60 (m0 69)) (hs : Sm [69, 73, 75] (upR m0 71 (rst (m0 69) (m0 71))) m) : J l g 6 mX12_bright 32 [some (rf g 68), some (.int (nI h)), some (.int v), some (.int (nI 60)), none] [] m (RS (some (.int (-1000000002))) (fun m3 => ∃ m2, MK m0 m2 ∧ m3 = errM 2 m2)) := by
  have w : WF (m 69) := by rw [hm]; exact itD_wf 60 w0
  have hy : ¬ (fun e : Nat → Int32 => v ≤ hf e h 5) (m 69) := by rw [hm]; exact hno 60 (by decide)
  have hmk : MK m0 (upR m 69 (rst (m 71) (m 69))) := ⟨by rw [upR_s, hs 71 (by decide), upR_s, hm, rst_it w0, rst_rst], ((Sm.rf.row (by decide)).trans (hs.mono (by decide))).row (by decide)⟩
  refine j_iload3 33 dX12_bright_32 rfl ?_
  refine j_bipush 35 (v := 60) dX12_bright_33 rfl rfl ?_
  refine j_cmp_ge 58 38 dX12_bright_35 rfl rfl (fun h35 => ?_) (fun h35 => absurd (by decide) h35)
  refine j_aload0 59 dX12_bright_58 rfl ?_
  refine j_iload1 60 dX12_bright_59 rfl ?_
  refine j_iconst 61 (v := 5) dX12_bright_60 rfl rfl ?_
  refine j_vi2f 64 dX12_bright_61 rfl rfl cl_X12_146 rfl rfl (c_of m h 5 hh (by decide)) ?_
  refine j_iload2 65 dX12_bright_64 rfl ?_
  refine j_cmp_lt 72 68 dX12_bright_65 rfl rfl (fun h65 => ?_) (fun h65 => absurd (Int32.not_le.mp hy) h65)
  refine j_iconst 73 (v := 0) dX12_bright_72 rfl rfl ?_
  refine j_istore4 75 dX12_bright_73 rfl rfl rfl ?_
  refine j_aload0 76 dX12_bright_75 rfl ?_
  refine j_vi0v 79 dX12_bright_76 rfl rfl cl_X12_223 rfl rfl (c_putBack _) ?_
  refine j_iload4 81 dX12_bright_79 rfl ?_
  refine j_if_eq 88 84 dX12_bright_81 rfl rfl (fun h81 => ?_) (fun h81 => absurd (by decide) h81)
  refine j_aload0 89 dX12_bright_88 rfl ?_
  refine j_iconst 90 (v := 2) dX12_bright_89 rfl rfl ?_
  refine j_vi1f 93 dX12_bright_90 rfl rfl cl_X12_126 rfl rfl (c_finds2 _) ?_
  refine j_iret dX12_bright_93 rfl ?_
  exact ⟨rfl, _, hmk, rfl⟩
set_option maxRecDepth 100000 in
theorem p_bright (m : Mem) (w : WF (m 69)) (hd : nb (m 69 1) 10000) (h : Nat) (hh : h < 8) (v : Int32) (h1 : 0 ≤ nI h ∧ nI h ≤ m 69 0 - 1) (h2 : 0 ≤ v ∧ v ≤ 9999) (N : Nat) (hN : N ≤ 60) (hno : ∀ j, j < N → ¬ (fun e : Nat → Int32 => v ≤ hf e h 5) (itD j (m 69))) (hyes : (fun e : Nat → Int32 => v ≤ hf e h 5) (itD N (m 69))) : JM l g 6 mX12_bright [rf g 68, .int (nI h), .int v] m (RS (some (.int (nI N))) (MK m)) := by
  refine JM_of (ls := [some (rf g 68), some (.int (nI h)), some (.int v), none, none]) pn_X12 rfl rfl ?_
  refine j_aload0 1 dX12_bright_0 rfl ?_
  refine j_iload1 2 dX12_bright_1 rfl ?_
  refine j_vi1f 5 dX12_bright_2 rfl rfl cl_X12_199 rfl rfl (c_misHeir m _) ?_
  refine j_if_eq_bz 20 8 dX12_bright_5 rfl rfl (fun h5 => absurd h1 h5) (fun h5 => ?_)
  refine j_iload2 9 dX12_bright_8 rfl ?_
  refine j_i2l 10 dX12_bright_9 rfl ?_
  refine j_lconst 11 (v := 0) dX12_bright_10 rfl rfl ?_
  refine j_ldc2 14 dX12_bright_11 rfl kl_X12_205 ?_
  refine j_st3f 17 dX12_bright_14 rfl rfl cl_X12_47 rfl (c_in m v 0 9999) ?_
  refine j_if_ne_bz 26 20 dX12_bright_17 rfl rfl (fun h17 => ?_) (fun h17 => absurd h2 h17)
  refine j_aload0 27 dX12_bright_26 rfl ?_
  refine j_vi0v 30 dX12_bright_27 rfl rfl cl_X12_226 rfl rfl (c_keepAside m) ?_
  refine j_iconst 31 (v := 0) dX12_bright_30 rfl rfl ?_
  refine j_istore3 32 dX12_bright_31 rfl rfl rfl ?_
  exact lm_bright h hh v (m 69) w hd _ N hN hno (fun m1 r1 s1 => om_bright h hh v m m1 w N hN hyes  r1 s1) N 0 _ (Nat.zero_add _) (upR_n (by decide)) Sm.rf
set_option maxRecDepth 100000 in
theorem q_bright (m : Mem) (w : WF (m 69)) (hd : nb (m 69 1) 10000) (h : Nat) (hh : h < 8) (v : Int32) (h1 : 0 ≤ nI h ∧ nI h ≤ m 69 0 - 1) (h2 : 0 ≤ v ∧ v ≤ 9999) (hno : ∀ j, j < 61 → ¬ (fun e : Nat → Int32 => v ≤ hf e h 5) (itD j (m 69))) : JM l g 6 mX12_bright [rf g 68, .int (nI h), .int v] m (RS (some (.int (-1000000002))) (fun m3 => ∃ m2, MK m m2 ∧ m3 = errM 2 m2)) := by
  refine JM_of (ls := [some (rf g 68), some (.int (nI h)), some (.int v), none, none]) pn_X12 rfl rfl ?_
  refine j_aload0 1 dX12_bright_0 rfl ?_
  refine j_iload1 2 dX12_bright_1 rfl ?_
  refine j_vi1f 5 dX12_bright_2 rfl rfl cl_X12_199 rfl rfl (c_misHeir m _) ?_
  refine j_if_eq_bz 20 8 dX12_bright_5 rfl rfl (fun h5 => absurd h1 h5) (fun h5 => ?_)
  refine j_iload2 9 dX12_bright_8 rfl ?_
  refine j_i2l 10 dX12_bright_9 rfl ?_
  refine j_lconst 11 (v := 0) dX12_bright_10 rfl rfl ?_
  refine j_ldc2 14 dX12_bright_11 rfl kl_X12_205 ?_
  refine j_st3f 17 dX12_bright_14 rfl rfl cl_X12_47 rfl (c_in m v 0 9999) ?_
  refine j_if_ne_bz 26 20 dX12_bright_17 rfl rfl (fun h17 => ?_) (fun h17 => absurd h2 h17)
  refine j_aload0 27 dX12_bright_26 rfl ?_
  refine j_vi0v 30 dX12_bright_27 rfl rfl cl_X12_226 rfl rfl (c_keepAside m) ?_
  refine j_iconst 31 (v := 0) dX12_bright_30 rfl rfl ?_
  refine j_istore3 32 dX12_bright_31 rfl rfl rfl ?_
  exact lm_bright h hh v (m 69) w hd _ 60 (by decide) (fun j hj => hno j (by omega)) (fun m1 r1 s1 => nm_bright h hh v m m1 w hno r1 s1) 60 0 _ (Nat.zero_add _) (upR_n (by decide)) Sm.rf
set_option maxRecDepth 100000 in
theorem e_bright (m : Mem) (h v : Int32) (c : ¬ ((0 ≤ h ∧ h < m 9 9 ∧ h < 8) ∧ 0 ≤ v ∧ v ≤ 9999)) : JM l g 2 mX11_bright [rf g 0, .int h, .int v] m (RF (some (.int (-1000000001))) (errC 1 m)) := by
  refine JM_of (ls := [some (rf g 0), some (.int h), some (.int v), none]) pn_X11 rfl rfl ?_
  refine j_aload0 1 dX11_bright_0 rfl ?_
  refine j_iload1 2 dX11_bright_1 rfl ?_
  refine j_vi1f 5 dX11_bright_2 rfl rfl cl_X11_124 rfl rfl (c_isHeir m h) ?_
  refine j_if_eq_bz 19 8 dX11_bright_5 rfl rfl (fun h5 => ?_) (fun h5 => ?_)
  · refine j_aload0 20 dX11_bright_19 rfl ?_
    refine j_ldc 22 dX11_bright_20 rfl kc_X11_81 ?_
    refine j_vi1f 25 dX11_bright_22 rfl rfl cl_X11_82 rfl rfl (c_err1 m) ?_
    refine j_iret dX11_bright_25 rfl ?_
    exact ⟨rfl, rfl⟩
  · refine j_iload2 9 dX11_bright_8 rfl ?_
    refine j_iconst 10 (v := 0) dX11_bright_9 rfl rfl ?_
    refine j_sipush 13 (v := 9999) dX11_bright_10 rfl rfl ?_
    refine j_st3f 16 dX11_bright_13 rfl rfl cl_X11_86 rfl (c_within m v 0 9999) ?_
    refine j_if_ne_bz 26 19 dX11_bright_16 rfl rfl (fun h16 => ?_) (fun h16 => ?_)
    · exact absurd ⟨h5, h16⟩ c
    · refine j_aload0 20 dX11_bright_19 rfl ?_
      refine j_ldc 22 dX11_bright_20 rfl kc_X11_81 ?_
      refine j_vi1f 25 dX11_bright_22 rfl rfl cl_X11_82 rfl rfl (c_err1 m) ?_
      refine j_iret dX11_bright_25 rfl ?_
      exact ⟨rfl, rfl⟩
set_option maxRecDepth 100000 in
theorem f_bright (m : Mem) (h v : Int32) (c : ¬ ((0 ≤ h ∧ h ≤ m 69 0 - 1) ∧ 0 ≤ v ∧ v ≤ 9999)) : JM l g 2 mX12_bright [rf g 68, .int h, .int v] m (RF (some (.int (-1000000001))) (errM 1 m)) := by
  refine JM_of (ls := [some (rf g 68), some (.int h), some (.int v), none, none]) pn_X12 rfl rfl ?_
  refine j_aload0 1 dX12_bright_0 rfl ?_
  refine j_iload1 2 dX12_bright_1 rfl ?_
  refine j_vi1f 5 dX12_bright_2 rfl rfl cl_X12_199 rfl rfl (c_misHeir m h) ?_
  refine j_if_eq_bz 20 8 dX12_bright_5 rfl rfl (fun h5 => ?_) (fun h5 => ?_)
  · refine j_aload0 21 dX12_bright_20 rfl ?_
    refine j_iconst 22 (v := 1) dX12_bright_21 rfl rfl ?_
    refine j_vi1f 25 dX12_bright_22 rfl rfl cl_X12_126 rfl rfl (c_finds1 m) ?_
    refine j_iret dX12_bright_25 rfl ?_
    exact ⟨rfl, rfl⟩
  · refine j_iload2 9 dX12_bright_8 rfl ?_
    refine j_i2l 10 dX12_bright_9 rfl ?_
    refine j_lconst 11 (v := 0) dX12_bright_10 rfl rfl ?_
    refine j_ldc2 14 dX12_bright_11 rfl kl_X12_205 ?_
    refine j_st3f 17 dX12_bright_14 rfl rfl cl_X12_47 rfl (c_in m v 0 9999) ?_
    refine j_if_ne_bz 26 20 dX12_bright_17 rfl rfl (fun h17 => ?_) (fun h17 => ?_)
    · exact absurd ⟨h5, h17⟩ c
    · refine j_aload0 21 dX12_bright_20 rfl ?_
      refine j_iconst 22 (v := 1) dX12_bright_21 rfl rfl ?_
      refine j_vi1f 25 dX12_bright_22 rfl rfl cl_X12_126 rfl rfl (c_finds1 m) ?_
      refine j_iret dX12_bright_25 rfl ?_
      exact ⟨rfl, rfl⟩
theorem find60 (p : (Nat → Int32) → Prop) (d : Nat → Int32) : (∃ N, N ≤ 60 ∧ p (itD N d) ∧ ∀ j, j < N → ¬ p (itD j d)) ∨ ∀ j, j < 61 → ¬ p (itD j d) := by
  by_cases h : ∃ j, j < 61 ∧ p (itD j d)
  · left
    obtain ⟨j, hj, hp⟩ := h
    obtain ⟨k, hk, hl⟩ := pk_least (fun k => p (itD k d)) ⟨j, hp⟩
    refine ⟨k, ?_, hk, hl⟩
    by_cases q : j < k
    · exact absurd hp (hl j q)
    · omega
  · right
    exact fun j hj hp => h ⟨j, hj, hp⟩
theorem op_bright {m : Mem} (I : INV m) (h v : Int32) : OPr l g mX11_bright mX12_bright [.int h, .int v] m := by
  obtain ⟨⟨wf, hd, hT, hP⟩, -⟩ := id I
  by_cases c : (0 ≤ h ∧ h < m 69 0 ∧ h < 8) ∧ 0 ≤ v ∧ v ≤ 9999
  · obtain ⟨h1, c2⟩ := c
    obtain ⟨j, hj, rfl⟩ := (isH_c wf).mp h1
    have hh : j < 8 := by have := wf.n.1; omega
    have hM := (isH_m wf).mpr ⟨j, hj, rfl⟩
    rcases find60 (fun e => v ≤ hf e j 5) (m 69) with ⟨N, hN, hy, hno⟩ | hno
    · exact OPr_ask (d2 := 6) I (by decide) (by decide) (o_bright m (m 69) wf hT hP j hh v (by rw [hT.1]; exact h1) c2 N hN hno hy) (fun m' s => p_bright m' (by rw [dn s]; exact wf) (by rw [dn s]; exact hd) j hh v (by rw [dn s]; exact hM) c2 N hN (by rw [dn s]; exact hno) (by rw [dn s]; exact hy))
    · exact OPr_none (d2 := 6) I (by decide) (by decide) (by decide) (n_bright m (m 69) wf hT hP j hh v (by rw [hT.1]; exact h1) c2 hno) (fun m' s => by
        have e : errC 2 m' 69 = m 69 := (errC_o (by decide)).trans (dn s)
        exact q_bright (errC 2 m') (by rw [e]; exact wf) (by rw [e]; exact hd) j hh v (by rw [e]; exact hM) c2 (by rw [e]; exact hno))
  · exact OPr_err I (by decide) (by decide) (by decide) (e_bright m h v (by rw [hT.1]; exact c)) (f_bright _ h v (fun q => c ⟨(isH_c wf).mpr ((isH_m wf).mp (by have := q.1; rw [errC_o (by decide)] at this; exact this)), q.2⟩))
end O9
