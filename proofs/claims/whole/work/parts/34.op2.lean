theorem INV_one {m : Mem} (I : INV m) {cb cs k : Nat} {v : Int32} (hb1 : cb ∉ cR) (hb2 : cb ≠ 68) (hb3 : cb ≠ 69) (hw : WF (upd1 (m 69) k v)) (hk : k ≠ 1) (hT : TR 9 (up2 m cb cs v) (upd1 (m 69) k v)) (hP : PR 36 (up2 m cb cs v) (upd1 (m 69) k v)) : INV (up2 (up2 m cb cs v) 69 k v) := by
  have r69 : up2 (up2 m cb cs v) 69 k v 69 = upd1 (m 69) k v := by rw [up2_row69, up2_r (Ne.symm hb3)]
  refine INV_new I (fun b hb => ?_) ((up2_r (by decide)).trans (up2_r (Ne.symm hb2))) ⟨by rw [r69]; exact hw, ?_, ?_, ?_⟩
  · exact (up2_r (fun z => by subst z; exact absurd hb (by decide))).trans (up2_r (fun z => by subst z; exact hb1 hb))
  · rw [r69]; show nb (if 1 = k then v else m 69 1) _; rw [if_neg (Ne.symm hk)]; exact I.1.2.1
  · rw [r69]; exact TR_same hT (fun b b1 b2 => up2_r (by omega))
  · rw [r69]; exact PR_same hP (fun b hb => up2_r (by omega))
section O2
variable {l : Launch} {g : Gv}
set_option maxRecDepth 100000 in
theorem e_town0 (m : Mem) (v : Int32) (c : ¬ (0 ≤ v ∧ v ≤ 9)) : JM l g 2 mX11_town [rf g 0, .int 0, .int v] m (RF (some (.int (-1000000001))) (errC 1 m)) := by
  refine JM_of (ls := [some (rf g 0), some (.int 0), some (.int v), none]) pn_X11 rfl rfl ?_
  refine j_iload1 1 dX11_town_0 rfl ?_
  refine j_if_ne 33 4 dX11_town_1 rfl rfl (fun h1 => absurd h1 (by decide)) (fun h1 => ?_)
  refine j_iload2 5 dX11_town_4 rfl ?_
  refine j_iconst 6 (v := 0) dX11_town_5 rfl rfl ?_
  refine j_bipush 8 (v := 9) dX11_town_6 rfl rfl ?_
  refine j_st3f 11 dX11_town_8 rfl rfl cl_X11_86 rfl (c_within m v 0 9) ?_
  refine j_if_eq_bz 33 14 dX11_town_11 rfl rfl (fun h11 => ?_) (fun h11 => absurd h11 c)
  refine j_iload1 34 dX11_town_33 rfl ?_
  refine j_iconst 35 (v := 1) dX11_town_34 rfl rfl ?_
  refine j_cmp_ne 67 38 dX11_town_35 rfl rfl (fun h35 => ?_) (fun h35 => absurd h35 (by decide))
  refine j_iload1 68 dX11_town_67 rfl ?_
  refine j_iconst 69 (v := 2) dX11_town_68 rfl rfl ?_
  refine j_cmp_ne 101 72 dX11_town_69 rfl rfl (fun h69 => ?_) (fun h69 => absurd h69 (by decide))
  refine j_aload0 102 dX11_town_101 rfl ?_
  refine j_ldc 104 dX11_town_102 rfl kc_X11_81 ?_
  refine j_vi1f 107 dX11_town_104 rfl rfl cl_X11_82 rfl rfl (c_err1 m) ?_
  refine j_istore3 108 dX11_town_107 rfl rfl rfl ?_
  refine j_iload3 109 dX11_town_108 rfl ?_
  refine j_iret dX11_town_109 rfl ?_
  exact ⟨rfl, rfl⟩
set_option maxRecDepth 100000 in
theorem o_town0 (m : Mem) (v : Int32) (c : 0 ≤ v ∧ v ≤ 9) : JM l g 2 mX11_town [rf g 0, .int 0, .int v] m (RF (some (.int (m 9 10))) (up2 m 9 10 v)) := by
  refine JM_of (ls := [some (rf g 0), some (.int 0), some (.int v), none]) pn_X11 rfl rfl ?_
  refine j_iload1 1 dX11_town_0 rfl ?_
  refine j_if_ne 33 4 dX11_town_1 rfl rfl (fun h1 => absurd h1 (by decide)) (fun h1 => ?_)
  refine j_iload2 5 dX11_town_4 rfl ?_
  refine j_iconst 6 (v := 0) dX11_town_5 rfl rfl ?_
  refine j_bipush 8 (v := 9) dX11_town_6 rfl rfl ?_
  refine j_st3f 11 dX11_town_8 rfl rfl cl_X11_86 rfl (c_within m v 0 9) ?_
  refine j_if_eq_bz 33 14 dX11_town_11 rfl rfl (fun h11 => absurd c h11) (fun h11 => ?_)
  refine j_aload0 15 dX11_town_14 rfl ?_
  refine j_getR 18 dX11_town_15 rfl fl_X11_35 rfl rfl ?_
  refine j_getI 21 dX11_town_18 rfl fl_X11_102 rfl rfl ?_
  refine j_istore3 22 dX11_town_21 rfl rfl rfl ?_
  refine j_aload0 23 dX11_town_22 rfl ?_
  refine j_getR 26 dX11_town_23 rfl fl_X11_35 rfl rfl ?_
  refine j_iload2 27 dX11_town_26 rfl ?_
  refine j_putI 30 dX11_town_27 rfl fp_X11_102 rfl rfl ?_
  refine j_goto 108 dX11_town_30 rfl ?_
  refine j_iload3 109 dX11_town_108 rfl ?_
  refine j_iret dX11_town_109 rfl ?_
  exact ⟨rfl, rfl⟩
set_option maxRecDepth 100000 in
theorem f_town0 (m : Mem) (v : Int32) (c : ¬ (0 ≤ v ∧ v ≤ 9)) : JM l g 2 mX12_town [rf g 68, .int 0, .int v] m (RF (some (.int (-1000000001))) (errM 1 m)) := by
  refine JM_of (ls := [some (rf g 68), some (.int 0), some (.int v), none]) pn_X12 rfl rfl ?_
  refine j_iload1 1 dX12_town_0 rfl ?_
  refine j_if_ne 16 4 dX12_town_1 rfl rfl (fun h1 => absurd h1 (by decide)) (fun h1 => ?_)
  refine j_iload2 5 dX12_town_4 rfl ?_
  refine j_i2l 6 dX12_town_5 rfl ?_
  refine j_lconst 7 (v := 0) dX12_town_6 rfl rfl ?_
  refine j_ldc2 10 dX12_town_7 rfl kl_X12_177 ?_
  refine j_st3f 13 dX12_town_10 rfl rfl cl_X12_47 rfl (c_in m v 0 9) ?_
  refine j_goto 55 dX12_town_13 rfl ?_
  refine j_istore3 56 dX12_town_55 rfl rfl rfl ?_
  refine j_iload3 57 dX12_town_56 rfl ?_
  refine j_if_eq_bz 71 60 dX12_town_57 rfl rfl (fun h57 => ?_) (fun h57 => absurd h57 c)
  refine j_aload0 72 dX12_town_71 rfl ?_
  refine j_iconst 73 (v := 1) dX12_town_72 rfl rfl ?_
  refine j_vi1f 76 dX12_town_73 rfl rfl cl_X12_126 rfl rfl (c_finds1 m) ?_
  refine j_iret dX12_town_76 rfl ?_
  exact ⟨rfl, rfl⟩
set_option maxRecDepth 100000 in
theorem p_town0 (m : Mem) (v : Int32) (c : 0 ≤ v ∧ v ≤ 9) : JM l g 2 mX12_town [rf g 68, .int 0, .int v] m (RF (some (.int (m 69 2))) (up2 m 69 2 v)) := by
  refine JM_of (ls := [some (rf g 68), some (.int 0), some (.int v), none]) pn_X12 rfl rfl ?_
  refine j_iload1 1 dX12_town_0 rfl ?_
  refine j_if_ne 16 4 dX12_town_1 rfl rfl (fun h1 => absurd h1 (by decide)) (fun h1 => ?_)
  refine j_iload2 5 dX12_town_4 rfl ?_
  refine j_i2l 6 dX12_town_5 rfl ?_
  refine j_lconst 7 (v := 0) dX12_town_6 rfl rfl ?_
  refine j_ldc2 10 dX12_town_7 rfl kl_X12_177 ?_
  refine j_st3f 13 dX12_town_10 rfl rfl cl_X12_47 rfl (c_in m v 0 9) ?_
  refine j_goto 55 dX12_town_13 rfl ?_
  refine j_istore3 56 dX12_town_55 rfl rfl rfl ?_
  refine j_iload3 57 dX12_town_56 rfl ?_
  refine j_if_eq_bz 71 60 dX12_town_57 rfl rfl (fun h57 => absurd c h57) (fun h57 => ?_)
  refine j_aload0 61 dX12_town_60 rfl ?_
  refine j_iconst 62 (v := 2) dX12_town_61 rfl rfl ?_
  refine j_iload1 63 dX12_town_62 rfl ?_
  refine j_iadd 64 dX12_town_63 rfl ?_
  refine j_top (z := nI 2) (by decide) ?_
  refine j_iload2 65 dX12_town_64 rfl ?_
  refine j_vi2f 68 dX12_town_65 rfl rfl cl_X12_179 rfl rfl (c_becomes m 2 v (by decide)) ?_
  refine j_goto 76 dX12_town_68 rfl ?_
  refine j_iret dX12_town_76 rfl ?_
  exact ⟨rfl, rfl⟩
set_option maxRecDepth 100000 in
theorem e_town1 (m : Mem) (v : Int32) (c : ¬ (1 ≤ v ∧ v ≤ 30)) : JM l g 2 mX11_town [rf g 0, .int 1, .int v] m (RF (some (.int (-1000000001))) (errC 1 m)) := by
  refine JM_of (ls := [some (rf g 0), some (.int 1), some (.int v), none]) pn_X11 rfl rfl ?_
  refine j_iload1 1 dX11_town_0 rfl ?_
  refine j_if_ne 33 4 dX11_town_1 rfl rfl (fun h1 => ?_) (fun h1 => absurd h1 (by decide))
  refine j_iload1 34 dX11_town_33 rfl ?_
  refine j_iconst 35 (v := 1) dX11_town_34 rfl rfl ?_
  refine j_cmp_ne 67 38 dX11_town_35 rfl rfl (fun h35 => absurd h35 (by decide)) (fun h35 => ?_)
  refine j_iload2 39 dX11_town_38 rfl ?_
  refine j_iconst 40 (v := 1) dX11_town_39 rfl rfl ?_
  refine j_bipush 42 (v := 30) dX11_town_40 rfl rfl ?_
  refine j_st3f 45 dX11_town_42 rfl rfl cl_X11_86 rfl (c_within m v 1 30) ?_
  refine j_if_eq_bz 67 48 dX11_town_45 rfl rfl (fun h45 => ?_) (fun h45 => absurd h45 c)
  refine j_iload1 68 dX11_town_67 rfl ?_
  refine j_iconst 69 (v := 2) dX11_town_68 rfl rfl ?_
  refine j_cmp_ne 101 72 dX11_town_69 rfl rfl (fun h69 => ?_) (fun h69 => absurd h69 (by decide))
  refine j_aload0 102 dX11_town_101 rfl ?_
  refine j_ldc 104 dX11_town_102 rfl kc_X11_81 ?_
  refine j_vi1f 107 dX11_town_104 rfl rfl cl_X11_82 rfl rfl (c_err1 m) ?_
  refine j_istore3 108 dX11_town_107 rfl rfl rfl ?_
  refine j_iload3 109 dX11_town_108 rfl ?_
  refine j_iret dX11_town_109 rfl ?_
  exact ⟨rfl, rfl⟩
set_option maxRecDepth 100000 in
theorem o_town1 (m : Mem) (v : Int32) (c : 1 ≤ v ∧ v ≤ 30) : JM l g 2 mX11_town [rf g 0, .int 1, .int v] m (RF (some (.int (m 9 11))) (up2 m 9 11 v)) := by
  refine JM_of (ls := [some (rf g 0), some (.int 1), some (.int v), none]) pn_X11 rfl rfl ?_
  refine j_iload1 1 dX11_town_0 rfl ?_
  refine j_if_ne 33 4 dX11_town_1 rfl rfl (fun h1 => ?_) (fun h1 => absurd h1 (by decide))
  refine j_iload1 34 dX11_town_33 rfl ?_
  refine j_iconst 35 (v := 1) dX11_town_34 rfl rfl ?_
  refine j_cmp_ne 67 38 dX11_town_35 rfl rfl (fun h35 => absurd h35 (by decide)) (fun h35 => ?_)
  refine j_iload2 39 dX11_town_38 rfl ?_
  refine j_iconst 40 (v := 1) dX11_town_39 rfl rfl ?_
  refine j_bipush 42 (v := 30) dX11_town_40 rfl rfl ?_
  refine j_st3f 45 dX11_town_42 rfl rfl cl_X11_86 rfl (c_within m v 1 30) ?_
  refine j_if_eq_bz 67 48 dX11_town_45 rfl rfl (fun h45 => absurd c h45) (fun h45 => ?_)
  refine j_aload0 49 dX11_town_48 rfl ?_
  refine j_getR 52 dX11_town_49 rfl fl_X11_35 rfl rfl ?_
  refine j_getI 55 dX11_town_52 rfl fl_X11_106 rfl rfl ?_
  refine j_istore3 56 dX11_town_55 rfl rfl rfl ?_
  refine j_aload0 57 dX11_town_56 rfl ?_
  refine j_getR 60 dX11_town_57 rfl fl_X11_35 rfl rfl ?_
  refine j_iload2 61 dX11_town_60 rfl ?_
  refine j_putI 64 dX11_town_61 rfl fp_X11_106 rfl rfl ?_
  refine j_goto 108 dX11_town_64 rfl ?_
  refine j_iload3 109 dX11_town_108 rfl ?_
  refine j_iret dX11_town_109 rfl ?_
  exact ⟨rfl, rfl⟩
set_option maxRecDepth 100000 in
theorem f_town1 (m : Mem) (v : Int32) (c : ¬ (1 ≤ v ∧ v ≤ 30)) : JM l g 2 mX12_town [rf g 68, .int 1, .int v] m (RF (some (.int (-1000000001))) (errM 1 m)) := by
  refine JM_of (ls := [some (rf g 68), some (.int 1), some (.int v), none]) pn_X12 rfl rfl ?_
  refine j_iload1 1 dX12_town_0 rfl ?_
  refine j_if_ne 16 4 dX12_town_1 rfl rfl (fun h1 => ?_) (fun h1 => absurd h1 (by decide))
  refine j_iload1 17 dX12_town_16 rfl ?_
  refine j_iconst 18 (v := 1) dX12_town_17 rfl rfl ?_
  refine j_cmp_ne 33 21 dX12_town_18 rfl rfl (fun h18 => absurd h18 (by decide)) (fun h18 => ?_)
  refine j_iload2 22 dX12_town_21 rfl ?_
  refine j_i2l 23 dX12_town_22 rfl ?_
  refine j_lconst 24 (v := 1) dX12_town_23 rfl rfl ?_
  refine j_ldc2 27 dX12_town_24 rfl kl_X12_187 ?_
  refine j_st3f 30 dX12_town_27 rfl rfl cl_X12_47 rfl (c_in m v 1 30) ?_
  refine j_goto 55 dX12_town_30 rfl ?_
  refine j_istore3 56 dX12_town_55 rfl rfl rfl ?_
  refine j_iload3 57 dX12_town_56 rfl ?_
  refine j_if_eq_bz 71 60 dX12_town_57 rfl rfl (fun h57 => ?_) (fun h57 => absurd h57 c)
  refine j_aload0 72 dX12_town_71 rfl ?_
  refine j_iconst 73 (v := 1) dX12_town_72 rfl rfl ?_
  refine j_vi1f 76 dX12_town_73 rfl rfl cl_X12_126 rfl rfl (c_finds1 m) ?_
  refine j_iret dX12_town_76 rfl ?_
  exact ⟨rfl, rfl⟩
set_option maxRecDepth 100000 in
theorem p_town1 (m : Mem) (v : Int32) (c : 1 ≤ v ∧ v ≤ 30) : JM l g 2 mX12_town [rf g 68, .int 1, .int v] m (RF (some (.int (m 69 3))) (up2 m 69 3 v)) := by
  refine JM_of (ls := [some (rf g 68), some (.int 1), some (.int v), none]) pn_X12 rfl rfl ?_
  refine j_iload1 1 dX12_town_0 rfl ?_
  refine j_if_ne 16 4 dX12_town_1 rfl rfl (fun h1 => ?_) (fun h1 => absurd h1 (by decide))
  refine j_iload1 17 dX12_town_16 rfl ?_
  refine j_iconst 18 (v := 1) dX12_town_17 rfl rfl ?_
  refine j_cmp_ne 33 21 dX12_town_18 rfl rfl (fun h18 => absurd h18 (by decide)) (fun h18 => ?_)
  refine j_iload2 22 dX12_town_21 rfl ?_
  refine j_i2l 23 dX12_town_22 rfl ?_
  refine j_lconst 24 (v := 1) dX12_town_23 rfl rfl ?_
  refine j_ldc2 27 dX12_town_24 rfl kl_X12_187 ?_
  refine j_st3f 30 dX12_town_27 rfl rfl cl_X12_47 rfl (c_in m v 1 30) ?_
  refine j_goto 55 dX12_town_30 rfl ?_
  refine j_istore3 56 dX12_town_55 rfl rfl rfl ?_
  refine j_iload3 57 dX12_town_56 rfl ?_
  refine j_if_eq_bz 71 60 dX12_town_57 rfl rfl (fun h57 => absurd c h57) (fun h57 => ?_)
  refine j_aload0 61 dX12_town_60 rfl ?_
  refine j_iconst 62 (v := 2) dX12_town_61 rfl rfl ?_
  refine j_iload1 63 dX12_town_62 rfl ?_
  refine j_iadd 64 dX12_town_63 rfl ?_
  refine j_top (z := nI 3) (by decide) ?_
  refine j_iload2 65 dX12_town_64 rfl ?_
  refine j_vi2f 68 dX12_town_65 rfl rfl cl_X12_179 rfl rfl (c_becomes m 3 v (by decide)) ?_
  refine j_goto 76 dX12_town_68 rfl ?_
  refine j_iret dX12_town_76 rfl ?_
  exact ⟨rfl, rfl⟩
set_option maxRecDepth 100000 in
theorem e_town2 (m : Mem) (v : Int32) (c : ¬ (0 ≤ v ∧ v ≤ 99999)) : JM l g 2 mX11_town [rf g 0, .int 2, .int v] m (RF (some (.int (-1000000001))) (errC 1 m)) := by
  refine JM_of (ls := [some (rf g 0), some (.int 2), some (.int v), none]) pn_X11 rfl rfl ?_
  refine j_iload1 1 dX11_town_0 rfl ?_
  refine j_if_ne 33 4 dX11_town_1 rfl rfl (fun h1 => ?_) (fun h1 => absurd h1 (by decide))
  refine j_iload1 34 dX11_town_33 rfl ?_
  refine j_iconst 35 (v := 1) dX11_town_34 rfl rfl ?_
  refine j_cmp_ne 67 38 dX11_town_35 rfl rfl (fun h35 => ?_) (fun h35 => absurd h35 (by decide))
  refine j_iload1 68 dX11_town_67 rfl ?_
  refine j_iconst 69 (v := 2) dX11_town_68 rfl rfl ?_
  refine j_cmp_ne 101 72 dX11_town_69 rfl rfl (fun h69 => absurd h69 (by decide)) (fun h69 => ?_)
  refine j_iload2 73 dX11_town_72 rfl ?_
  refine j_iconst 74 (v := 0) dX11_town_73 rfl rfl ?_
  refine j_ldc 76 dX11_town_74 rfl kc_X11_109 ?_
  refine j_st3f 79 dX11_town_76 rfl rfl cl_X11_86 rfl (c_within m v 0 99999) ?_
  refine j_if_eq_bz 101 82 dX11_town_79 rfl rfl (fun h79 => ?_) (fun h79 => absurd h79 c)
  refine j_aload0 102 dX11_town_101 rfl ?_
  refine j_ldc 104 dX11_town_102 rfl kc_X11_81 ?_
  refine j_vi1f 107 dX11_town_104 rfl rfl cl_X11_82 rfl rfl (c_err1 m) ?_
  refine j_istore3 108 dX11_town_107 rfl rfl rfl ?_
  refine j_iload3 109 dX11_town_108 rfl ?_
  refine j_iret dX11_town_109 rfl ?_
  exact ⟨rfl, rfl⟩
set_option maxRecDepth 100000 in
theorem o_town2 (m : Mem) (v : Int32) (c : 0 ≤ v ∧ v ≤ 99999) : JM l g 2 mX11_town [rf g 0, .int 2, .int v] m (RF (some (.int (m 9 12))) (up2 m 9 12 v)) := by
  refine JM_of (ls := [some (rf g 0), some (.int 2), some (.int v), none]) pn_X11 rfl rfl ?_
  refine j_iload1 1 dX11_town_0 rfl ?_
  refine j_if_ne 33 4 dX11_town_1 rfl rfl (fun h1 => ?_) (fun h1 => absurd h1 (by decide))
  refine j_iload1 34 dX11_town_33 rfl ?_
  refine j_iconst 35 (v := 1) dX11_town_34 rfl rfl ?_
  refine j_cmp_ne 67 38 dX11_town_35 rfl rfl (fun h35 => ?_) (fun h35 => absurd h35 (by decide))
  refine j_iload1 68 dX11_town_67 rfl ?_
  refine j_iconst 69 (v := 2) dX11_town_68 rfl rfl ?_
  refine j_cmp_ne 101 72 dX11_town_69 rfl rfl (fun h69 => absurd h69 (by decide)) (fun h69 => ?_)
  refine j_iload2 73 dX11_town_72 rfl ?_
  refine j_iconst 74 (v := 0) dX11_town_73 rfl rfl ?_
  refine j_ldc 76 dX11_town_74 rfl kc_X11_109 ?_
  refine j_st3f 79 dX11_town_76 rfl rfl cl_X11_86 rfl (c_within m v 0 99999) ?_
  refine j_if_eq_bz 101 82 dX11_town_79 rfl rfl (fun h79 => absurd c h79) (fun h79 => ?_)
  refine j_aload0 83 dX11_town_82 rfl ?_
  refine j_getR 86 dX11_town_83 rfl fl_X11_35 rfl rfl ?_
  refine j_getI 89 dX11_town_86 rfl fl_X11_110 rfl rfl ?_
  refine j_istore3 90 dX11_town_89 rfl rfl rfl ?_
  refine j_aload0 91 dX11_town_90 rfl ?_
  refine j_getR 94 dX11_town_91 rfl fl_X11_35 rfl rfl ?_
  refine j_iload2 95 dX11_town_94 rfl ?_
  refine j_putI 98 dX11_town_95 rfl fp_X11_110 rfl rfl ?_
  refine j_goto 108 dX11_town_98 rfl ?_
  refine j_iload3 109 dX11_town_108 rfl ?_
  refine j_iret dX11_town_109 rfl ?_
  exact ⟨rfl, rfl⟩
set_option maxRecDepth 100000 in
theorem f_town2 (m : Mem) (v : Int32) (c : ¬ (0 ≤ v ∧ v ≤ 99999)) : JM l g 2 mX12_town [rf g 68, .int 2, .int v] m (RF (some (.int (-1000000001))) (errM 1 m)) := by
  refine JM_of (ls := [some (rf g 68), some (.int 2), some (.int v), none]) pn_X12 rfl rfl ?_
  refine j_iload1 1 dX12_town_0 rfl ?_
  refine j_if_ne 16 4 dX12_town_1 rfl rfl (fun h1 => ?_) (fun h1 => absurd h1 (by decide))
  refine j_iload1 17 dX12_town_16 rfl ?_
  refine j_iconst 18 (v := 1) dX12_town_17 rfl rfl ?_
  refine j_cmp_ne 33 21 dX12_town_18 rfl rfl (fun h18 => ?_) (fun h18 => absurd h18 (by decide))
  refine j_iload1 34 dX12_town_33 rfl ?_
  refine j_iconst 35 (v := 2) dX12_town_34 rfl rfl ?_
  refine j_cmp_ne 54 38 dX12_town_35 rfl rfl (fun h35 => absurd h35 (by decide)) (fun h35 => ?_)
  refine j_iload2 39 dX12_town_38 rfl ?_
  refine j_i2l 40 dX12_town_39 rfl ?_
  refine j_lconst 41 (v := 0) dX12_town_40 rfl rfl ?_
  refine j_ldc2 44 dX12_town_41 rfl kl_X12_189 ?_
  refine j_st3f 47 dX12_town_44 rfl rfl cl_X12_47 rfl (c_in m v 0 99999) ?_
  refine j_if_eq_bz 54 50 dX12_town_47 rfl rfl (fun h47 => ?_) (fun h47 => absurd h47 c)
  refine j_iconst 55 (v := 0) dX12_town_54 rfl rfl ?_
  refine j_istore3 56 dX12_town_55 rfl rfl rfl ?_
  refine j_iload3 57 dX12_town_56 rfl ?_
  refine j_if_eq 71 60 dX12_town_57 rfl rfl (fun h57 => ?_) (fun h57 => absurd (by decide) h57)
  refine j_aload0 72 dX12_town_71 rfl ?_
  refine j_iconst 73 (v := 1) dX12_town_72 rfl rfl ?_
  refine j_vi1f 76 dX12_town_73 rfl rfl cl_X12_126 rfl rfl (c_finds1 m) ?_
  refine j_iret dX12_town_76 rfl ?_
  exact ⟨rfl, rfl⟩
set_option maxRecDepth 100000 in
theorem p_town2 (m : Mem) (v : Int32) (c : 0 ≤ v ∧ v ≤ 99999) : JM l g 2 mX12_town [rf g 68, .int 2, .int v] m (RF (some (.int (m 69 4))) (up2 m 69 4 v)) := by
  refine JM_of (ls := [some (rf g 68), some (.int 2), some (.int v), none]) pn_X12 rfl rfl ?_
  refine j_iload1 1 dX12_town_0 rfl ?_
  refine j_if_ne 16 4 dX12_town_1 rfl rfl (fun h1 => ?_) (fun h1 => absurd h1 (by decide))
  refine j_iload1 17 dX12_town_16 rfl ?_
  refine j_iconst 18 (v := 1) dX12_town_17 rfl rfl ?_
  refine j_cmp_ne 33 21 dX12_town_18 rfl rfl (fun h18 => ?_) (fun h18 => absurd h18 (by decide))
  refine j_iload1 34 dX12_town_33 rfl ?_
  refine j_iconst 35 (v := 2) dX12_town_34 rfl rfl ?_
  refine j_cmp_ne 54 38 dX12_town_35 rfl rfl (fun h35 => absurd h35 (by decide)) (fun h35 => ?_)
  refine j_iload2 39 dX12_town_38 rfl ?_
  refine j_i2l 40 dX12_town_39 rfl ?_
  refine j_lconst 41 (v := 0) dX12_town_40 rfl rfl ?_
  refine j_ldc2 44 dX12_town_41 rfl kl_X12_189 ?_
  refine j_st3f 47 dX12_town_44 rfl rfl cl_X12_47 rfl (c_in m v 0 99999) ?_
  refine j_if_eq_bz 54 50 dX12_town_47 rfl rfl (fun h47 => absurd c h47) (fun h47 => ?_)
  refine j_iconst 51 (v := 1) dX12_town_50 rfl rfl ?_
  refine j_goto 55 dX12_town_51 rfl ?_
  refine j_istore3 56 dX12_town_55 rfl rfl rfl ?_
  refine j_iload3 57 dX12_town_56 rfl ?_
  refine j_if_eq 71 60 dX12_town_57 rfl rfl (fun h57 => absurd h57 (by decide)) (fun h57 => ?_)
  refine j_aload0 61 dX12_town_60 rfl ?_
  refine j_iconst 62 (v := 2) dX12_town_61 rfl rfl ?_
  refine j_iload1 63 dX12_town_62 rfl ?_
  refine j_iadd 64 dX12_town_63 rfl ?_
  refine j_top (z := nI 4) (by decide) ?_
  refine j_iload2 65 dX12_town_64 rfl ?_
  refine j_vi2f 68 dX12_town_65 rfl rfl cl_X12_179 rfl rfl (c_becomes m 4 v (by decide)) ?_
  refine j_goto 76 dX12_town_68 rfl ?_
  refine j_iret dX12_town_76 rfl ?_
  exact ⟨rfl, rfl⟩
set_option maxRecDepth 100000 in
theorem e_townx (m : Mem) (w v : Int32) (c0 : w ≠ 0) (c1 : w ≠ 1) (c2 : w ≠ 2) : JM l g 2 mX11_town [rf g 0, .int w, .int v] m (RF (some (.int (-1000000001))) (errC 1 m)) := by
  refine JM_of (ls := [some (rf g 0), some (.int w), some (.int v), none]) pn_X11 rfl rfl ?_
  refine j_iload1 1 dX11_town_0 rfl ?_
  refine j_if_ne 33 4 dX11_town_1 rfl rfl (fun h1 => ?_) (fun h1 => absurd h1 c0)
  refine j_iload1 34 dX11_town_33 rfl ?_
  refine j_iconst 35 (v := 1) dX11_town_34 rfl rfl ?_
  refine j_cmp_ne 67 38 dX11_town_35 rfl rfl (fun h35 => ?_) (fun h35 => absurd h35 c1)
  refine j_iload1 68 dX11_town_67 rfl ?_
  refine j_iconst 69 (v := 2) dX11_town_68 rfl rfl ?_
  refine j_cmp_ne 101 72 dX11_town_69 rfl rfl (fun h69 => ?_) (fun h69 => absurd h69 c2)
  refine j_aload0 102 dX11_town_101 rfl ?_
  refine j_ldc 104 dX11_town_102 rfl kc_X11_81 ?_
  refine j_vi1f 107 dX11_town_104 rfl rfl cl_X11_82 rfl rfl (c_err1 m) ?_
  refine j_istore3 108 dX11_town_107 rfl rfl rfl ?_
  refine j_iload3 109 dX11_town_108 rfl ?_
  refine j_iret dX11_town_109 rfl ?_
  exact ⟨rfl, rfl⟩
set_option maxRecDepth 100000 in
theorem f_townx (m : Mem) (w v : Int32) (c0 : w ≠ 0) (c1 : w ≠ 1) (c2 : w ≠ 2) : JM l g 2 mX12_town [rf g 68, .int w, .int v] m (RF (some (.int (-1000000001))) (errM 1 m)) := by
  refine JM_of (ls := [some (rf g 68), some (.int w), some (.int v), none]) pn_X12 rfl rfl ?_
  refine j_iload1 1 dX12_town_0 rfl ?_
  refine j_if_ne 16 4 dX12_town_1 rfl rfl (fun h1 => ?_) (fun h1 => absurd h1 c0)
  refine j_iload1 17 dX12_town_16 rfl ?_
  refine j_iconst 18 (v := 1) dX12_town_17 rfl rfl ?_
  refine j_cmp_ne 33 21 dX12_town_18 rfl rfl (fun h18 => ?_) (fun h18 => absurd h18 c1)
  refine j_iload1 34 dX12_town_33 rfl ?_
  refine j_iconst 35 (v := 2) dX12_town_34 rfl rfl ?_
  refine j_cmp_ne 54 38 dX12_town_35 rfl rfl (fun h35 => ?_) (fun h35 => absurd h35 c2)
  refine j_iconst 55 (v := 0) dX12_town_54 rfl rfl ?_
  refine j_istore3 56 dX12_town_55 rfl rfl rfl ?_
  refine j_iload3 57 dX12_town_56 rfl ?_
  refine j_if_eq 71 60 dX12_town_57 rfl rfl (fun h57 => ?_) (fun h57 => absurd (by decide) h57)
  refine j_aload0 72 dX12_town_71 rfl ?_
  refine j_iconst 73 (v := 1) dX12_town_72 rfl rfl ?_
  refine j_vi1f 76 dX12_town_73 rfl rfl cl_X12_126 rfl rfl (c_finds1 m) ?_
  refine j_iret dX12_town_76 rfl ?_
  exact ⟨rfl, rfl⟩
theorem op_town {m : Mem} (I : INV m) (w v : Int32) : OPr l g mX11_town mX12_town [.int w, .int v] m := by
  obtain ⟨⟨wf, hd, hT, hP⟩, -⟩ := id I
  by_cases w0 : w = 0
  · subst w0
    by_cases c : 0 ≤ v ∧ v ≤ 9
    · refine ⟨2, 2, _, _, by decide, by decide, o_town0 m v c, fun m' e => ?_⟩
      subst e
      obtain ⟨j, hj, ej⟩ := (rngN 9 (by decide)).mp c
      have hN : nb v 10 := ⟨j, by omega, ej⟩
      have hq := p_town0 (l := l) (g := g) (up2 m 9 10 v) v c
      rw [up2_a (by decide), show m 69 2 = m 9 10 from (hT.2.1).symm] at hq
      exact hq.mono (RS_w (fun m2 q => by subst q; exact INV_one I (by decide) (by decide) (by decide) (WF_low wf (Or.inr (Or.inr (Or.inl ⟨rfl, hN⟩)))) (by decide) (TR_sc hT (Or.inr (Or.inl ⟨rfl, rfl⟩))) (PR_same (PR_d hP (fun k hk => if_neg (by omega))) (fun b hb => up2_r (by omega)))))
    · exact OPr_err I (by decide) (by decide) (by decide) (e_town0 m v c) (f_town0 _ v c)
  by_cases w1 : w = 1
  · subst w1
    by_cases c : 1 ≤ v ∧ v ≤ 30
    · refine ⟨2, 2, _, _, by decide, by decide, o_town1 m v c, fun m' e => ?_⟩
      subst e
      obtain ⟨j, hj, ej⟩ := (rngN 30 (by decide)).mp ⟨Int32.le_trans (by decide) c.1, c.2⟩
      have hN : nb v 31 ∧ v ≠ 0 := ⟨⟨j, by omega, ej⟩, fun q => absurd c.1 (by rw [q]; decide)⟩
      have hq := p_town1 (l := l) (g := g) (up2 m 9 11 v) v c
      rw [up2_a (by decide), show m 69 3 = m 9 11 from (hT.2.2.1).symm] at hq
      exact hq.mono (RS_w (fun m2 q => by subst q; exact INV_one I (by decide) (by decide) (by decide) (WF_low wf (Or.inr (Or.inr (Or.inr (Or.inr ⟨rfl, hN⟩))))) (by decide) (TR_sc hT (Or.inr (Or.inr (Or.inl ⟨rfl, rfl⟩)))) (PR_same (PR_d hP (fun k hk => if_neg (by omega))) (fun b hb => up2_r (by omega)))))
    · exact OPr_err I (by decide) (by decide) (by decide) (e_town1 m v c) (f_town1 _ v c)
  by_cases w2 : w = 2
  · subst w2
    by_cases c : 0 ≤ v ∧ v ≤ 99999
    · refine ⟨2, 2, _, _, by decide, by decide, o_town2 m v c, fun m' e => ?_⟩
      subst e
      obtain ⟨j, hj, ej⟩ := (rngN 99999 (by decide)).mp c
      have hN : nb v 100000 := ⟨j, by omega, ej⟩
      have hq := p_town2 (l := l) (g := g) (up2 m 9 12 v) v c
      rw [up2_a (by decide), show m 69 4 = m 9 12 from (hT.2.2.2.1).symm] at hq
      exact hq.mono (RS_w (fun m2 q => by subst q; exact INV_one I (by decide) (by decide) (by decide) (WF_low wf (Or.inl ⟨rfl, hN⟩)) (by decide) (TR_sc hT (Or.inr (Or.inr (Or.inr (Or.inl ⟨rfl, rfl⟩))))) (PR_same (PR_d hP (fun k hk => if_neg (by omega))) (fun b hb => up2_r (by omega)))))
    · exact OPr_err I (by decide) (by decide) (by decide) (e_town2 m v c) (f_town2 _ v c)
  exact OPr_err I (by decide) (by decide) (by decide) (e_townx m w v w0 w1 w2) (f_townx _ w v w0 w1 w2)
-- seed
set_option maxRecDepth 100000 in
theorem o_seed (m : Mem) (v : Int32) : JM l g 0 mX11_seed [rf g 0, .int v] m (RF (some (.int (m 36 6))) (up2 m 36 6 v)) := by
  refine JM_of (ls := [some (rf g 0), some (.int v), none]) pn_X11 rfl rfl ?_
  refine j_aload0 1 dX11_seed_0 rfl ?_
  refine j_getR 4 dX11_seed_1 rfl fl_X11_48 rfl rfl ?_
  refine j_getI 7 dX11_seed_4 rfl fl_X11_250 rfl rfl ?_
  refine j_istore2 8 dX11_seed_7 rfl rfl rfl ?_
  refine j_aload0 9 dX11_seed_8 rfl ?_
  refine j_getR 12 dX11_seed_9 rfl fl_X11_48 rfl rfl ?_
  refine j_iload1 13 dX11_seed_12 rfl ?_
  refine j_putI 16 dX11_seed_13 rfl fp_X11_250 rfl rfl ?_
  refine j_iload2 17 dX11_seed_16 rfl ?_
  refine j_iret dX11_seed_17 rfl ?_
  exact ⟨rfl, rfl⟩
set_option maxRecDepth 100000 in
theorem p_seed (m : Mem) (v : Int32) : JM l g 1 mX12_seed [rf g 68, .int v] m (RF (some (.int (m 69 5))) (up2 m 69 5 v)) := by
  refine JM_of (ls := [some (rf g 68), some (.int v)]) pn_X12 rfl rfl ?_
  refine j_aload0 1 dX12_seed_0 rfl ?_
  refine j_iconst 2 (v := 5) dX12_seed_1 rfl rfl ?_
  refine j_iload1 3 dX12_seed_2 rfl ?_
  refine j_vi2f 6 dX12_seed_3 rfl rfl cl_X12_179 rfl rfl (c_becomes m 5 v (by decide)) ?_
  refine j_iret dX12_seed_6 rfl ?_
  exact ⟨rfl, rfl⟩
theorem PR_z {p : Nat} {m : Mem} {d : Nat → Int32} {v : Int32} (h : PR p m d) : PR p (up2 m p 6 v) (upd1 d 5 v) := by
  obtain ⟨p4, p5, p6, pt, pw, l0, l1⟩ := h
  have o : ∀ j, j ≠ 5 → upd1 d 5 v j = d j := fun j hj => if_neg hj
  exact ⟨by rw [up2_k (by decide), o 6 (by decide)]; exact p4, by rw [up2_k (by decide), o 7 (by decide)]; exact p5, by rw [up2_s]; exact (if_pos rfl).symm, fun i hi => by rw [up2_a (by omega), o _ (by omega)]; exact pt i hi, fun i hi => by rw [up2_a (by omega), o _ (by omega)]; exact pw i hi, LR_congr (by decide) l0 (up2_r (by omega)) (up2_r (by omega)) (fun k hk => o k (by omega)), LR_congr (by decide) l1 (up2_r (by omega)) (up2_r (by omega)) (fun k hk => o k (by omega))⟩
theorem op_seed {m : Mem} (I : INV m) (v : Int32) : OPr l g mX11_seed mX12_seed [.int v] m := by
  obtain ⟨⟨wf, hd, hT, hP⟩, -⟩ := id I
  refine ⟨0, 1, _, _, by decide, by decide, o_seed m v, fun m' e => ?_⟩
  subst e
  have hq := p_seed (l := l) (g := g) (up2 m 36 6 v) v
  rw [up2_a (by decide), show m 69 5 = m 36 6 from hP.2.2.1.symm] at hq
  exact hq.mono (RS_w (fun m2 q => by subst q; exact INV_one I (by decide) (by decide) (by decide) (WF_low wf (Or.inr (Or.inr (Or.inr (Or.inl rfl))))) (by decide) (TR_same (TR_d hT (fun k h1 h2 => if_neg (by omega))) (fun b b1 b2 => up2_r (by omega))) (PR_z hP)))
-- told
set_option maxRecDepth 100000 in
theorem e_told (m : Mem) (k : Int32) (c : ¬ (1 ≤ k ∧ k ≤ 5)) : JM l g 2 mX11_told [rf g 0, .int k] m (RF (some (.int (-1000000001))) (errC 1 m)) := by
  refine JM_of (ls := [some (rf g 0), some (.int k)]) pn_X11 rfl rfl ?_
  refine j_iload1 1 dX11_told_0 rfl ?_
  refine j_iconst 2 (v := 1) dX11_told_1 rfl rfl ?_
  refine j_iconst 3 (v := 5) dX11_told_2 rfl rfl ?_
  refine j_st3f 6 dX11_told_3 rfl rfl cl_X11_86 rfl (c_within m k 1 5) ?_
  refine j_if_eq_bz 18 9 dX11_told_6 rfl rfl (fun h6 => ?_) (fun h6 => absurd h6 c)
  refine j_aload0 19 dX11_told_18 rfl ?_
  refine j_ldc 21 dX11_told_19 rfl kc_X11_81 ?_
  refine j_vi1f 24 dX11_told_21 rfl rfl cl_X11_82 rfl rfl (c_err1 m) ?_
  refine j_iret dX11_told_24 rfl ?_
  exact ⟨rfl, rfl⟩
set_option maxRecDepth 100000 in
theorem f_told (m : Mem) (k : Int32) (c : ¬ (1 ≤ k ∧ k ≤ 5)) : JM l g 2 mX12_told [rf g 68, .int k] m (RF (some (.int (-1000000001))) (errM 1 m)) := by
  refine JM_of (ls := [some (rf g 68), some (.int k)]) pn_X12 rfl rfl ?_
  refine j_iload1 1 dX12_told_0 rfl ?_
  refine j_i2l 2 dX12_told_1 rfl ?_
  refine j_lconst 3 (v := 1) dX12_told_2 rfl rfl ?_
  refine j_ldc2 6 dX12_told_3 rfl kl_X12_282 ?_
  refine j_st3f 9 dX12_told_6 rfl rfl cl_X12_47 rfl (c_in m k 1 5) ?_
  refine j_if_eq_bz 21 12 dX12_told_9 rfl rfl (fun h9 => ?_) (fun h9 => absurd h9 c)
  refine j_aload0 22 dX12_told_21 rfl ?_
  refine j_iconst 23 (v := 1) dX12_told_22 rfl rfl ?_
  refine j_vi1f 26 dX12_told_23 rfl rfl cl_X12_126 rfl rfl (c_finds1 m) ?_
  refine j_iret dX12_told_26 rfl ?_
  exact ⟨rfl, rfl⟩
set_option maxRecDepth 100000 in
theorem o_told (m : Mem) (k : Nat) (c : 1 ≤ k ∧ k ≤ 5) (c2 : 1 ≤ nI k ∧ nI k ≤ 5) : JM l g 2 mX11_told [rf g 0, .int (nI k)] m (RF (some (.int (m 67 k))) m) := by
  refine JM_of (ls := [some (rf g 0), some (.int (nI k))]) pn_X11 rfl rfl ?_
  refine j_iload1 1 dX11_told_0 rfl ?_
  refine j_iconst 2 (v := 1) dX11_told_1 rfl rfl ?_
  refine j_iconst 3 (v := 5) dX11_told_2 rfl rfl ?_
  refine j_st3f 6 dX11_told_3 rfl rfl cl_X11_86 rfl (c_within m _ 1 5) ?_
  refine j_if_eq_bz 18 9 dX11_told_6 rfl rfl (fun h6 => absurd c2 h6) (fun h6 => ?_)
  refine j_aload0 10 dX11_told_9 rfl ?_
  refine j_getR 13 dX11_told_10 rfl fl_X11_74 rfl rfl ?_
  refine j_iload1 14 dX11_told_13 rfl ?_
  refine j_iald 15 _ rfl (show k < 6 by omega) dX11_told_14 rfl rfl ?_
  refine j_goto 24 dX11_told_15 rfl ?_
  refine j_iret dX11_told_24 rfl ?_
  exact ⟨rfl, rfl⟩
set_option maxRecDepth 100000 in
theorem p_told (m : Mem) (k : Nat) (c : 1 ≤ k ∧ k ≤ 5) (c2 : 1 ≤ nI k ∧ nI k ≤ 5) : JM l g 2 mX12_told [rf g 68, .int (nI k)] m (RF (some (.int (m 72 k))) m) := by
  refine JM_of (ls := [some (rf g 68), some (.int (nI k))]) pn_X12 rfl rfl ?_
  refine j_iload1 1 dX12_told_0 rfl ?_
  refine j_i2l 2 dX12_told_1 rfl ?_
  refine j_lconst 3 (v := 1) dX12_told_2 rfl rfl ?_
  refine j_ldc2 6 dX12_told_3 rfl kl_X12_282 ?_
  refine j_st3f 9 dX12_told_6 rfl rfl cl_X12_47 rfl (c_in m _ 1 5) ?_
  refine j_if_eq_bz 21 12 dX12_told_9 rfl rfl (fun h9 => absurd c2 h9) (fun h9 => ?_)
  refine j_aload0 13 dX12_told_12 rfl ?_
  refine j_getR 16 dX12_told_13 rfl fl_X12_19 rfl rfl ?_
  refine j_iload1 17 dX12_told_16 rfl ?_
  refine j_iald 18 _ rfl (show k < 6 by omega) dX12_told_17 rfl rfl ?_
  refine j_goto 26 dX12_told_18 rfl ?_
  refine j_iret dX12_told_26 rfl ?_
  exact ⟨rfl, rfl⟩
theorem op_told {m : Mem} (I : INV m) (k : Int32) : OPr l g mX11_told mX12_told [.int k] m := by
  by_cases c : 1 ≤ k ∧ k ≤ 5
  · obtain ⟨j, hj, rfl⟩ := (rngN 5 (by decide)).mp ⟨Int32.le_trans (by decide) c.1, c.2⟩
    have j1 : 1 ≤ j := (nI_leI (a := 1) (b := j) (by decide) (by omega)).mp c.1
    refine ⟨2, 2, _, _, by decide, by decide, o_told m j ⟨j1, hj⟩ c, fun m' e => ?_⟩
    subst e
    have hq := p_told (l := l) (g := g) m' j ⟨j1, hj⟩ c
    rw [← I.2.2.1 j j1 hj] at hq
    exact hq.mono (RS_w (fun m2 q => by subst q; exact I))
  · exact OPr_err I (by decide) (by decide) (by decide) (e_told m k c) (f_told _ k c)
-- tell
set_option maxRecDepth 100000 in
theorem e_tell (m : Mem) (v : Int32) (c : ¬ m 36 5 < 20) : JM l g 2 mX11_tell [rf g 0, .int v] m (RF (some (.int (-1000000004))) (errC 4 m)) := by
  refine JM_of (ls := [some (rf g 0), some (.int v)]) pn_X11 rfl rfl ?_
  refine j_aload0 1 dX11_tell_0 rfl ?_
  refine j_getR 4 dX11_tell_1 rfl fl_X11_48 rfl rfl ?_
  refine j_getI 7 dX11_tell_4 rfl fl_X11_311 rfl rfl ?_
  refine j_bipush 9 (v := 20) dX11_tell_7 rfl rfl ?_
  refine j_cmp_lt 19 12 dX11_tell_9 rfl rfl (fun h9 => absurd h9 c) (fun h9 => ?_)
  refine j_aload0 13 dX11_tell_12 rfl ?_
  refine j_ldc 15 dX11_tell_13 rfl kc_X11_119 ?_
  refine j_vi1f 18 dX11_tell_15 rfl rfl cl_X11_82 rfl rfl (c_err4 m) ?_
  refine j_iret dX11_tell_18 rfl ?_
  exact ⟨rfl, rfl⟩
set_option maxRecDepth 100000 in
theorem f_tell (m : Mem) (v : Int32) (c : m 69 7 = 20) : JM l g 2 mX12_tell [rf g 68, .int v] m (RF (some (.int (-1000000004))) (errM 4 m)) := by
  refine JM_of (ls := [some (rf g 68), some (.int v)]) pn_X12 rfl rfl ?_
  refine j_aload0 1 dX12_tell_0 rfl ?_
  refine j_getR 4 dX12_tell_1 rfl fl_X12_7 rfl rfl ?_
  refine j_bipush 6 (v := 7) dX12_tell_4 rfl rfl ?_
  refine j_iald 7 7 rfl (by first | assumption | decide | omega) dX12_tell_6 rfl rfl ?_
  refine j_bipush 9 (v := 20) dX12_tell_7 rfl rfl ?_
  refine j_cmp_ne 18 12 dX12_tell_9 rfl rfl (fun h9 => absurd h9 (fun q => q c)) (fun h9 => ?_)
  refine j_aload0 13 dX12_tell_12 rfl ?_
  refine j_iconst 14 (v := 4) dX12_tell_13 rfl rfl ?_
  refine j_vi1f 17 dX12_tell_14 rfl rfl cl_X12_126 rfl rfl (c_finds4 m) ?_
  refine j_iret dX12_tell_17 rfl ?_
  exact ⟨rfl, rfl⟩
set_option maxRecDepth 100000 in
theorem o_tell (m : Mem) (n : Nat) (v : Int32) (hn : n < 20) (c : m 36 5 = nI n) : JM l g 2 mX11_tell [rf g 0, .int v] m (RF (some (.int (nI (n + 1)))) (up2 (up2 m 38 n v) 36 5 (nI (n + 1)))) := by
  refine JM_of (ls := [some (rf g 0), some (.int v)]) pn_X11 rfl rfl ?_
  refine j_aload0 1 dX11_tell_0 rfl ?_
  refine j_getR 4 dX11_tell_1 rfl fl_X11_48 rfl rfl ?_
  refine j_getI 7 dX11_tell_4 rfl fl_X11_311 rfl rfl ?_
  refine j_bipush 9 (v := 20) dX11_tell_7 rfl rfl ?_
  refine j_cmp_lt 19 12 dX11_tell_9 rfl rfl (fun h9 => ?_) (fun h9 => absurd (by rw [c]; exact nI_lt (a := n) (b := 20) hn (by decide)) h9)
  refine j_aload0 20 dX11_tell_19 rfl ?_
  refine j_getR 23 dX11_tell_20 rfl fl_X11_48 rfl rfl ?_
  refine j_iload1 24 dX11_tell_23 rfl ?_
  refine j_vi1v 27 dX11_tell_24 rfl rfl cl_X11_314 rfl rfl (c_keepW m n v hn c) ?_
  refine j_aload0 28 dX11_tell_27 rfl ?_
  refine j_getR 31 dX11_tell_28 rfl fl_X11_48 rfl rfl ?_
  refine j_getI 34 dX11_tell_31 rfl fl_X11_311 rfl rfl ?_
  refine j_iret dX11_tell_34 rfl ?_
  exact ⟨by rw [up2_s], rfl⟩
set_option maxRecDepth 100000 in
theorem p_tell (m : Mem) (n : Nat) (v : Int32) (hn : n < 20) (c : m 69 7 = nI n) : JM l g 2 mX12_tell [rf g 68, .int v] m (RF (some (.int (nI (n + 1)))) (up2 (up2 m 69 (90 + n) v) 69 7 (nI (n + 1)))) := by
  refine JM_of (ls := [some (rf g 68), some (.int v)]) pn_X12 rfl rfl ?_
  refine j_aload0 1 dX12_tell_0 rfl ?_
  refine j_getR 4 dX12_tell_1 rfl fl_X12_7 rfl rfl ?_
  refine j_bipush 6 (v := 7) dX12_tell_4 rfl rfl ?_
  refine j_iald 7 7 rfl (by first | assumption | decide | omega) dX12_tell_6 rfl rfl ?_
  refine j_bipush 9 (v := 20) dX12_tell_7 rfl rfl ?_
  refine j_cmp_ne 18 12 dX12_tell_9 rfl rfl (fun h9 => ?_) (fun h9 => absurd h9 (by rw [c]; exact fun q => by have := (nI_eq (a := n) (b := 20) (by omega) (by decide)).mp q; omega))
  refine j_aload0 19 dX12_tell_18 rfl ?_
  refine j_getR 22 dX12_tell_19 rfl fl_X12_7 rfl rfl ?_
  refine j_bipush 24 (v := nI 90) dX12_tell_22 rfl rfl ?_
  refine j_aload0 25 dX12_tell_24 rfl ?_
  refine j_getR 28 dX12_tell_25 rfl fl_X12_7 rfl rfl ?_
  refine j_bipush 30 (v := 7) dX12_tell_28 rfl rfl ?_
  refine j_iald 31 7 rfl (by first | assumption | decide | omega) dX12_tell_30 rfl rfl ?_
  refine j_top c ?_
  refine j_iaddN 32 dX12_tell_31 rfl ?_
  refine j_iload1 33 dX12_tell_32 rfl ?_
  refine j_iast 34 _ rfl (show 90 + n < 260 by omega) dX12_tell_33 rfl rfl ?_
  refine j_aload0 35 dX12_tell_34 rfl ?_
  refine j_getR 38 dX12_tell_35 rfl fl_X12_7 rfl rfl ?_
  refine j_bipush 40 (v := 7) dX12_tell_38 rfl rfl ?_
  refine j_dup2 41 dX12_tell_40 rfl rfl rfl ?_
  refine j_iald 42 7 rfl (by decide) dX12_tell_41 rfl rfl ?_
  refine j_iconst 43 (v := 1) dX12_tell_42 rfl rfl ?_
  refine j_iadd 44 dX12_tell_43 rfl ?_
  refine j_iast 45 7 rfl (by decide) dX12_tell_44 rfl rfl ?_
  refine j_aload0 46 dX12_tell_45 rfl ?_
  refine j_getR 49 dX12_tell_46 rfl fl_X12_7 rfl rfl ?_
  refine j_bipush 51 (v := 7) dX12_tell_49 rfl rfl ?_
  refine j_iald 52 7 rfl (by first | assumption | decide | omega) dX12_tell_51 rfl rfl ?_
  refine j_iret dX12_tell_52 rfl ?_
  exact ⟨by rw [up2_s, up2_k (by omega), c, nI_1], by rw [up2_k (by omega), c, nI_1]⟩
theorem op_tell {m : Mem} (I : INV m) (v : Int32) : OPr l g mX11_tell mX12_tell [.int v] m := by
  obtain ⟨⟨wf, hd, hT, hP⟩, -⟩ := id I
  obtain ⟨w1, w2, w3, w4, w5, w6, w7, w8, w9, w10, w11, w12⟩ := id wf
  obtain ⟨n, hn, en⟩ := w6
  have e5 : m 36 5 = nI n := hP.2.1.trans en
  by_cases c : n < 20
  · refine ⟨2, 2, _, _, by decide, by decide, o_tell m n v c e5, fun m' e => ?_⟩
    subst e
    have e69 : up2 (up2 m 38 n v) 36 5 (nI (n + 1)) 69 = m 69 := (up2_r (by decide)).trans (up2_r (by decide))
    refine (p_tell (l := l) (g := g) _ n v c (by rw [e69]; exact en)).mono (RS_w (fun m2 q => ?_))
    subst q
    have r69 : up2 (up2 (up2 (up2 m 38 n v) 36 5 (nI (n + 1))) 69 (90 + n) v) 69 7 (nI (n + 1)) 69 = upd1 (upd1 (m 69) (90 + n) v) 7 (nI (n + 1)) := by rw [up2_row69, up2_row69, e69]
    have o : ∀ j, j ≠ 7 → j ≠ 90 + n → upd1 (upd1 (m 69) (90 + n) v) 7 (nI (n + 1)) j = m 69 j := fun j h1 h2 => by show (if j = 7 then _ else if j = 90 + n then _ else _) = _; rw [if_neg h1, if_neg h2]
    have lo : ∀ j, 110 ≤ j → upd1 (upd1 (m 69) (90 + n) v) 7 (nI (n + 1)) j = m 69 j := fun j hj => o j (by omega) (by omega)
    refine INV_new I (fun b hb => ?_) ((((up2_r (by decide)).trans (up2_r (by decide))).trans (up2_r (by decide))).trans (up2_r (by decide))) ⟨?_, ?_, ?_, ?_⟩
    · rw [up2_r (fun z => by subst z; exact absurd hb (by decide)), up2_r (fun z => by subst z; exact absurd hb (by decide)), up2_r (fun z => by subst z; exact absurd hb (by decide)), up2_r (fun z => by subst z; exact absurd hb (by decide))]
    · rw [r69]
      obtain ⟨n0, a1, a2, a3⟩ := w10
      obtain ⟨n1, b1, b2, b3⟩ := w11
      refine ⟨by rw [o 0 (by omega) (by omega)]; exact w1, by rw [o 2 (by omega) (by omega)]; exact w2, by rw [o 3 (by omega) (by omega)]; exact w3, by rw [o 4 (by omega) (by omega)]; exact w4, by rw [o 6 (by omega) (by omega)]; exact w5, ⟨n + 1, by omega, if_pos rfl⟩, fun i hi => by rw [o _ (by omega) (by omega)]; exact w7 i hi, fun i hi => by rw [o _ (by omega) (by omega)]; exact w8 i hi, fun h hh => HWr_eq (fun r hr => o _ (by omega) (by omega)) (w9 h hh), ⟨n0, a1, by rw [o _ (by omega) (by omega)]; exact a2, ?_⟩, ⟨n1, b1, by rw [o _ (by omega) (by omega)]; exact b2, ?_⟩, fun i hi => by rw [lo _ (by omega)]; exact w12 i hi⟩
      · rw [show (fun j => upd1 (upd1 (m 69) (90 + n) v) 7 (nI (n + 1)) (110 + 50 * 0 + j)) = (fun j => m 69 (110 + 50 * 0 + j)) from funext fun j => lo _ (by omega)]; exact a3
      · rw [show (fun j => upd1 (upd1 (m 69) (90 + n) v) 7 (nI (n + 1)) (110 + 50 * 1 + j)) = (fun j => m 69 (110 + 50 * 1 + j)) from funext fun j => lo _ (by omega)]; exact b3
    · rw [r69, o 1 (by omega) (by omega)]; exact hd
    · rw [r69]
      exact TR_same (TR_d hT (fun k h1 h2 => o k (by omega) (by omega))) (fun b b1 b2 => by rw [up2_r (by omega), up2_r (by omega), up2_r (by omega), up2_r (by omega)])
    · rw [r69]
      obtain ⟨p4, p5, p6, pt, pw, ⟨x0, y0, z0⟩, ⟨x1, y1, z1⟩⟩ := hP
      have oc : ∀ c, c ≠ 36 → c ≠ 38 → c ≠ 69 → up2 (up2 (up2 (up2 m 38 n v) 36 5 (nI (n + 1))) 69 (90 + n) v) 69 7 (nI (n + 1)) c = m c := fun c c1 c2 c3 => by rw [up2_r c3, up2_r c3, up2_r c1, up2_r c2]
      refine ⟨?_, ?_, ?_, fun i hi => ?_, fun i hi => ?_, ⟨?_, ?_, fun j hj => ?_⟩, ⟨?_, ?_, fun j hj => ?_⟩⟩
      · rw [up2_a (by decide), up2_a (by decide), up2_k (by decide), up2_a (by decide), o 6 (by omega) (by omega)]; exact p4
      · rw [up2_a (by decide), up2_a (by decide), up2_s]; exact (if_pos rfl).symm
      · rw [up2_a (by decide), up2_a (by decide), up2_k (by decide), up2_a (by decide), o 5 (by omega) (by omega)]; exact p6
      · rw [oc 37 (by decide) (by decide) (by decide), lo _ (by omega)]; exact pt i hi
      · rw [up2_a (by decide), up2_a (by decide), up2_a (by decide)]
        show _ = (if 90 + i = 7 then _ else if 90 + i = 90 + n then v else _)
        rw [if_neg (by omega)]
        by_cases q : i = n
        · rw [q, up2_s, if_pos rfl]
        · rw [up2_k q, if_neg (by omega)]; exact pw i hi
      · rw [oc 39 (by decide) (by decide) (by decide), o _ (by omega) (by omega)]; exact x0
      · rw [oc 39 (by decide) (by decide) (by decide)]; exact y0
      · rw [o _ (by omega) (by omega)] at hj
        rw [oc 40 (by decide) (by decide) (by decide), lo _ (by omega)]; exact z0 j hj
      · rw [oc 43 (by decide) (by decide) (by decide), o _ (by omega) (by omega)]; exact x1
      · rw [oc 43 (by decide) (by decide) (by decide)]; exact y1
      · rw [o _ (by omega) (by omega)] at hj
        rw [oc 44 (by decide) (by decide) (by decide), lo _ (by omega)]; exact z1 j hj
  · have e20 : n = 20 := by omega
    subst e20
    exact OPr_err I (by decide) (by decide) (by decide) (e_tell m v (by rw [e5]; decide)) (f_tell _ v (by rw [errC_o (by decide)]; exact en))
end O2
