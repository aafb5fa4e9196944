/-! voice: the reference, the call -/
section O31
variable {l : Launch} {g : Gv}
set_option maxRecDepth 100000 in
theorem rl_0 (m : Mem) (n hh : Nat) (k : Nat) (x mk : Int32) (h8 : hh < 8) (h : RV m n hh k mk) (hn : n + 1 ≤ 40) : JM l g 1 mX12_liesBy [rf g 68, .int (nI 0), .int x] m (RF (some (.int (x + (nI hh)))) (pM [10] n m)) := by
  refine JM_of (ls := [some (rf g 68), some (.int (nI 0)), some (.int x)]) pn_X12 rfl rfl ?_
  refine j_iload1 1 dX12_liesBy_0 rfl ?_
  refine j_lookup 28 dX12_liesBy_1 rfl rfl rfl ?_
  refine j_aload0 29 dX12_liesBy_28 rfl ?_
  refine j_bipush 31 (v := 10) dX12_liesBy_29 rfl rfl ?_
  refine j_vi1v 34 dX12_liesBy_31 rfl rfl cl_X12_258 rfl rfl (v_ran m n 10 (by omega) h.1) ?_
  refine j_iload2 35 dX12_liesBy_34 rfl ?_
  refine j_aload0 36 dX12_liesBy_35 rfl ?_
  refine j_getI 39 dX12_liesBy_36 rfl fl_X12_261 rfl rfl ?_
  refine j_top (h.psh [10]).2.1 ?_
  refine j_iadd 40 dX12_liesBy_39 rfl ?_
  refine j_iret dX12_liesBy_40 rfl ?_
  exact ⟨rfl, rfl⟩
set_option maxRecDepth 100000 in
theorem rl_1 (m : Mem) (n hh : Nat) (k : Nat) (x mk : Int32) (h8 : hh < 8) (h : RV m n hh k mk) (hn : n + 2 ≤ 40) : JM l g 2 mX12_liesBy [rf g 68, .int (nI 1), .int x] m (RF (some (.int ((x + (nI hh)) * 3))) (pM [20, 10] n m)) := by
  refine JM_of (ls := [some (rf g 68), some (.int (nI 1)), some (.int x)]) pn_X12 rfl rfl ?_
  refine j_iload1 1 dX12_liesBy_0 rfl ?_
  refine j_lookup 41 dX12_liesBy_1 rfl rfl rfl ?_
  refine j_aload0 42 dX12_liesBy_41 rfl ?_
  refine j_bipush 44 (v := 20) dX12_liesBy_42 rfl rfl ?_
  refine j_vi1v 47 dX12_liesBy_44 rfl rfl cl_X12_258 rfl rfl (v_ran m n 20 (by omega) h.1) ?_
  refine j_aload0 48 dX12_liesBy_47 rfl ?_
  refine j_iconst 49 (v := nI 1) dX12_liesBy_48 rfl rfl ?_
  refine j_st1f 52 dX12_liesBy_49 rfl rfl cl_X12_209 rfl (c_above _ (nI 1)) ?_
  refine j_top (z := nI 0) (by decide) ?_
  refine j_iload2 53 dX12_liesBy_52 rfl ?_
  refine j_vi2f 56 dX12_liesBy_53 rfl rfl cl_X12_264 rfl rfl (rl_0 _ (n + 1) hh k x mk h8 (h.psh [20]) (by omega)) ?_
  refine j_iconst 57 (v := 3) dX12_liesBy_56 rfl rfl ?_
  refine j_imul 58 dX12_liesBy_57 rfl ?_
  refine j_iret dX12_liesBy_58 rfl ?_
  exact ⟨rfl, rfl⟩
set_option maxRecDepth 100000 in
theorem rl_2 (m : Mem) (n hh : Nat) (k : Nat) (x mk : Int32) (h8 : hh < 8) (h : RV m n hh k mk) (hn : n + 1 ≤ 40) : JM l g 2 mX12_liesBy [rf g 68, .int (nI 2), .int x] m (RF (some (.int (x + (nI hh)))) (pM [10] n m)) := by
  refine JM_of (ls := [some (rf g 68), some (.int (nI 2)), some (.int x)]) pn_X12 rfl rfl ?_
  refine j_iload1 1 dX12_liesBy_0 rfl ?_
  refine j_lookup 59 dX12_liesBy_1 rfl rfl rfl ?_
  refine j_aload0 60 dX12_liesBy_59 rfl ?_
  refine j_iload1 61 dX12_liesBy_60 rfl ?_
  refine j_st1f 64 dX12_liesBy_61 rfl rfl cl_X12_209 rfl (c_above _ (nI 2)) ?_
  refine j_top (z := nI 0) (by decide) ?_
  refine j_iload2 65 dX12_liesBy_64 rfl ?_
  refine j_vi2f 68 dX12_liesBy_65 rfl rfl cl_X12_264 rfl rfl (rl_0 m n hh k x mk h8 h hn) ?_
  refine j_iret dX12_liesBy_68 rfl ?_
  exact ⟨rfl, rfl⟩
set_option maxRecDepth 100000 in
theorem rl_3 (m : Mem) (n hh : Nat) (k : Nat) (x mk : Int32) (h8 : hh < 8) (h : RV m n hh k mk) (hn : n + 1 ≤ 40) : JM l g 2 mX12_liesBy [rf g 68, .int (nI 3), .int x] m (RF (some (.int (x + (nI hh)))) (pM [10] n m)) := by
  refine JM_of (ls := [some (rf g 68), some (.int (nI 3)), some (.int x)]) pn_X12 rfl rfl ?_
  refine j_iload1 1 dX12_liesBy_0 rfl ?_
  refine j_lookup 59 dX12_liesBy_1 rfl rfl rfl ?_
  refine j_aload0 60 dX12_liesBy_59 rfl ?_
  refine j_iload1 61 dX12_liesBy_60 rfl ?_
  refine j_st1f 64 dX12_liesBy_61 rfl rfl cl_X12_209 rfl (c_above _ (nI 3)) ?_
  refine j_top (z := nI 0) (by decide) ?_
  refine j_iload2 65 dX12_liesBy_64 rfl ?_
  refine j_vi2f 68 dX12_liesBy_65 rfl rfl cl_X12_264 rfl rfl (rl_0 m n hh k x mk h8 h hn) ?_
  refine j_iret dX12_liesBy_68 rfl ?_
  exact ⟨rfl, rfl⟩
set_option maxRecDepth 100000 in
theorem rl_4 (m : Mem) (n hh : Nat) (k : Nat) (x mk : Int32) (h8 : hh < 8) (h : RV m n hh k mk) (hn : n + 2 ≤ 40) : JM l g 3 mX12_liesBy [rf g 68, .int (nI 4), .int x] m (RF (some (.int ((x + (nI hh)) * 3))) (pM [20, 10] n m)) := by
  refine JM_of (ls := [some (rf g 68), some (.int (nI 4)), some (.int x)]) pn_X12 rfl rfl ?_
  refine j_iload1 1 dX12_liesBy_0 rfl ?_
  refine j_lookup 59 dX12_liesBy_1 rfl rfl rfl ?_
  refine j_aload0 60 dX12_liesBy_59 rfl ?_
  refine j_iload1 61 dX12_liesBy_60 rfl ?_
  refine j_st1f 64 dX12_liesBy_61 rfl rfl cl_X12_209 rfl (c_above _ (nI 4)) ?_
  refine j_top (z := nI 1) (by decide) ?_
  refine j_iload2 65 dX12_liesBy_64 rfl ?_
  refine j_vi2f 68 dX12_liesBy_65 rfl rfl cl_X12_264 rfl rfl (rl_1 m n hh k x mk h8 h hn) ?_
  refine j_iret dX12_liesBy_68 rfl ?_
  exact ⟨rfl, rfl⟩
set_option maxRecDepth 100000 in
theorem rl_5 (m : Mem) (n hh : Nat) (k : Nat) (x mk : Int32) (h8 : hh < 8) (h : RV m n hh k mk) (hn : n + 1 ≤ 40) : JM l g 3 mX12_liesBy [rf g 68, .int (nI 5), .int x] m (RF (some (.int (x + (nI hh)))) (pM [10] n m)) := by
  refine JM_of (ls := [some (rf g 68), some (.int (nI 5)), some (.int x)]) pn_X12 rfl rfl ?_
  refine j_iload1 1 dX12_liesBy_0 rfl ?_
  refine j_lookup 59 dX12_liesBy_1 rfl rfl rfl ?_
  refine j_aload0 60 dX12_liesBy_59 rfl ?_
  refine j_iload1 61 dX12_liesBy_60 rfl ?_
  refine j_st1f 64 dX12_liesBy_61 rfl rfl cl_X12_209 rfl (c_above _ (nI 5)) ?_
  refine j_top (z := nI 2) (by decide) ?_
  refine j_iload2 65 dX12_liesBy_64 rfl ?_
  refine j_vi2f 68 dX12_liesBy_65 rfl rfl cl_X12_264 rfl rfl (rl_2 m n hh k x mk h8 h hn) ?_
  refine j_iret dX12_liesBy_68 rfl ?_
  exact ⟨rfl, rfl⟩
set_option maxRecDepth 100000 in
theorem rl_6 (m : Mem) (n hh : Nat) (k : Nat) (x mk : Int32) (h8 : hh < 8) (h : RV m n hh k mk) (hn : n + 1 ≤ 40) : JM l g 3 mX12_liesBy [rf g 68, .int (nI 6), .int x] m (RF (some (.int (x + (nI hh)))) (pM [10] n m)) := by
  refine JM_of (ls := [some (rf g 68), some (.int (nI 6)), some (.int x)]) pn_X12 rfl rfl ?_
  refine j_iload1 1 dX12_liesBy_0 rfl ?_
  refine j_lookup 59 dX12_liesBy_1 rfl rfl rfl ?_
  refine j_aload0 60 dX12_liesBy_59 rfl ?_
  refine j_iload1 61 dX12_liesBy_60 rfl ?_
  refine j_st1f 64 dX12_liesBy_61 rfl rfl cl_X12_209 rfl (c_above _ (nI 6)) ?_
  refine j_top (z := nI 3) (by decide) ?_
  refine j_iload2 65 dX12_liesBy_64 rfl ?_
  refine j_vi2f 68 dX12_liesBy_65 rfl rfl cl_X12_264 rfl rfl (rl_3 m n hh k x mk h8 h hn) ?_
  refine j_iret dX12_liesBy_68 rfl ?_
  exact ⟨rfl, rfl⟩
set_option maxRecDepth 100000 in
theorem rd_0 (m : Mem) (n hh : Nat) (k : Nat) (x mk : Int32) (h8 : hh < 8) (h : RV m n hh k mk) (hn : n + 1 ≤ 40) : JM l g 1 mX12_driftsBy [rf g 68, .int (nI 0), .int x] m (RF (some (.int (x - mk))) (pM [12] n m)) := by
  refine JM_of (ls := [some (rf g 68), some (.int (nI 0)), some (.int x)]) pn_X12 rfl rfl ?_
  refine j_iload1 1 dX12_driftsBy_0 rfl ?_
  refine j_lookup 36 dX12_driftsBy_1 rfl rfl rfl ?_
  refine j_aload0 37 dX12_driftsBy_36 rfl ?_
  refine j_bipush 39 (v := 12) dX12_driftsBy_37 rfl rfl ?_
  refine j_vi1v 42 dX12_driftsBy_39 rfl rfl cl_X12_258 rfl rfl (v_ran m n 12 (by omega) h.1) ?_
  refine j_iload2 43 dX12_driftsBy_42 rfl ?_
  refine j_aload0 44 dX12_driftsBy_43 rfl ?_
  refine j_aload0 45 dX12_driftsBy_44 rfl ?_
  refine j_getI 48 dX12_driftsBy_45 rfl fl_X12_261 rfl rfl ?_
  refine j_top (h.psh [12]).2.1 ?_
  refine j_iconst 49 (v := nI 1) dX12_driftsBy_48 rfl rfl ?_
  refine j_vi2f 52 dX12_driftsBy_49 rfl rfl cl_X12_146 rfl rfl (c_of _ hh 1 h8 (by decide)) ?_
  refine j_top (h.psh [12]).2.2.2 ?_
  refine j_isub 53 dX12_driftsBy_52 rfl ?_
  refine j_iret dX12_driftsBy_53 rfl ?_
  exact ⟨rfl, rfl⟩
set_option maxRecDepth 100000 in
theorem rd_3 (m : Mem) (n hh : Nat) (k : Nat) (x mk : Int32) (h8 : hh < 8) (h : RV m n hh k mk) (hn : n + 2 ≤ 40) : JM l g 2 mX12_driftsBy [rf g 68, .int (nI 3), .int x] m (RF (some (.int (-(x - mk)))) (pM [40, 12] n m)) := by
  refine JM_of (ls := [some (rf g 68), some (.int (nI 3)), some (.int x)]) pn_X12 rfl rfl ?_
  refine j_iload1 1 dX12_driftsBy_0 rfl ?_
  refine j_lookup 54 dX12_driftsBy_1 rfl rfl rfl ?_
  refine j_aload0 55 dX12_driftsBy_54 rfl ?_
  refine j_bipush 57 (v := 40) dX12_driftsBy_55 rfl rfl ?_
  refine j_vi1v 60 dX12_driftsBy_57 rfl rfl cl_X12_258 rfl rfl (v_ran m n 40 (by omega) h.1) ?_
  refine j_aload0 61 dX12_driftsBy_60 rfl ?_
  refine j_iconst 62 (v := nI 3) dX12_driftsBy_61 rfl rfl ?_
  refine j_st1f 65 dX12_driftsBy_62 rfl rfl cl_X12_209 rfl (c_above _ (nI 3)) ?_
  refine j_top (z := nI 0) (by decide) ?_
  refine j_iload2 66 dX12_driftsBy_65 rfl ?_
  refine j_vi2f 69 dX12_driftsBy_66 rfl rfl cl_X12_270 rfl rfl (rd_0 _ (n + 1) hh k x mk h8 (h.psh [40]) (by omega)) ?_
  refine j_ineg 70 dX12_driftsBy_69 rfl ?_
  refine j_iret dX12_driftsBy_70 rfl ?_
  exact ⟨rfl, rfl⟩
set_option maxRecDepth 100000 in
theorem rd_6 (m : Mem) (n hh : Nat) (k : Nat) (x mk : Int32) (h8 : hh < 8) (h : RV m n hh k mk) (hn : n + 3 ≤ 40) : JM l g 3 mX12_driftsBy [rf g 68, .int (nI 6), .int x] m (RF (some (.int ((-(x - mk)) ^^^ (nI hh)))) (pM [70, 40, 12] n m)) := by
  refine JM_of (ls := [some (rf g 68), some (.int (nI 6)), some (.int x)]) pn_X12 rfl rfl ?_
  refine j_iload1 1 dX12_driftsBy_0 rfl ?_
  refine j_lookup 71 dX12_driftsBy_1 rfl rfl rfl ?_
  refine j_aload0 72 dX12_driftsBy_71 rfl ?_
  refine j_bipush 74 (v := 70) dX12_driftsBy_72 rfl rfl ?_
  refine j_vi1v 77 dX12_driftsBy_74 rfl rfl cl_X12_258 rfl rfl (v_ran m n 70 (by omega) h.1) ?_
  refine j_aload0 78 dX12_driftsBy_77 rfl ?_
  refine j_bipush 80 (v := nI 6) dX12_driftsBy_78 rfl rfl ?_
  refine j_st1f 83 dX12_driftsBy_80 rfl rfl cl_X12_209 rfl (c_above _ (nI 6)) ?_
  refine j_top (z := nI 3) (by decide) ?_
  refine j_iload2 84 dX12_driftsBy_83 rfl ?_
  refine j_vi2f 87 dX12_driftsBy_84 rfl rfl cl_X12_270 rfl rfl (rd_3 _ (n + 1) hh k x mk h8 (h.psh [70]) (by omega)) ?_
  refine j_aload0 88 dX12_driftsBy_87 rfl ?_
  refine j_getI 91 dX12_driftsBy_88 rfl fl_X12_261 rfl rfl ?_
  refine j_top (h.psh [70, 40, 12]).2.1 ?_
  refine j_ixor 92 dX12_driftsBy_91 rfl ?_
  refine j_iret dX12_driftsBy_92 rfl ?_
  exact ⟨rfl, rfl⟩
set_option maxRecDepth 100000 in
theorem rd_1 (m : Mem) (n hh : Nat) (k : Nat) (x mk : Int32) (h8 : hh < 8) (h : RV m n hh k mk) (hn : n + 1 ≤ 40) : JM l g 2 mX12_driftsBy [rf g 68, .int (nI 1), .int x] m (RF (some (.int (x - mk))) (pM [12] n m)) := by
  refine JM_of (ls := [some (rf g 68), some (.int (nI 1)), some (.int x)]) pn_X12 rfl rfl ?_
  refine j_iload1 1 dX12_driftsBy_0 rfl ?_
  refine j_lookup 93 dX12_driftsBy_1 rfl rfl rfl ?_
  refine j_aload0 94 dX12_driftsBy_93 rfl ?_
  refine j_iload1 95 dX12_driftsBy_94 rfl ?_
  refine j_st1f 98 dX12_driftsBy_95 rfl rfl cl_X12_209 rfl (c_above _ (nI 1)) ?_
  refine j_top (z := nI 0) (by decide) ?_
  refine j_iload2 99 dX12_driftsBy_98 rfl ?_
  refine j_vi2f 102 dX12_driftsBy_99 rfl rfl cl_X12_270 rfl rfl (rd_0 m n hh k x mk h8 h hn) ?_
  refine j_iret dX12_driftsBy_102 rfl ?_
  exact ⟨rfl, rfl⟩
set_option maxRecDepth 100000 in
theorem rd_2 (m : Mem) (n hh : Nat) (k : Nat) (x mk : Int32) (h8 : hh < 8) (h : RV m n hh k mk) (hn : n + 1 ≤ 40) : JM l g 2 mX12_driftsBy [rf g 68, .int (nI 2), .int x] m (RF (some (.int (x - mk))) (pM [12] n m)) := by
  refine JM_of (ls := [some (rf g 68), some (.int (nI 2)), some (.int x)]) pn_X12 rfl rfl ?_
  refine j_iload1 1 dX12_driftsBy_0 rfl ?_
  refine j_lookup 93 dX12_driftsBy_1 rfl rfl rfl ?_
  refine j_aload0 94 dX12_driftsBy_93 rfl ?_
  refine j_iload1 95 dX12_driftsBy_94 rfl ?_
  refine j_st1f 98 dX12_driftsBy_95 rfl rfl cl_X12_209 rfl (c_above _ (nI 2)) ?_
  refine j_top (z := nI 0) (by decide) ?_
  refine j_iload2 99 dX12_driftsBy_98 rfl ?_
  refine j_vi2f 102 dX12_driftsBy_99 rfl rfl cl_X12_270 rfl rfl (rd_0 m n hh k x mk h8 h hn) ?_
  refine j_iret dX12_driftsBy_102 rfl ?_
  exact ⟨rfl, rfl⟩
set_option maxRecDepth 100000 in
theorem rd_4 (m : Mem) (n hh : Nat) (k : Nat) (x mk : Int32) (h8 : hh < 8) (h : RV m n hh k mk) (hn : n + 1 ≤ 40) : JM l g 3 mX12_driftsBy [rf g 68, .int (nI 4), .int x] m (RF (some (.int (x - mk))) (pM [12] n m)) := by
  refine JM_of (ls := [some (rf g 68), some (.int (nI 4)), some (.int x)]) pn_X12 rfl rfl ?_
  refine j_iload1 1 dX12_driftsBy_0 rfl ?_
  refine j_lookup 93 dX12_driftsBy_1 rfl rfl rfl ?_
  refine j_aload0 94 dX12_driftsBy_93 rfl ?_
  refine j_iload1 95 dX12_driftsBy_94 rfl ?_
  refine j_st1f 98 dX12_driftsBy_95 rfl rfl cl_X12_209 rfl (c_above _ (nI 4)) ?_
  refine j_top (z := nI 1) (by decide) ?_
  refine j_iload2 99 dX12_driftsBy_98 rfl ?_
  refine j_vi2f 102 dX12_driftsBy_99 rfl rfl cl_X12_270 rfl rfl (rd_1 m n hh k x mk h8 h hn) ?_
  refine j_iret dX12_driftsBy_102 rfl ?_
  exact ⟨rfl, rfl⟩
set_option maxRecDepth 100000 in
theorem rd_5 (m : Mem) (n hh : Nat) (k : Nat) (x mk : Int32) (h8 : hh < 8) (h : RV m n hh k mk) (hn : n + 1 ≤ 40) : JM l g 3 mX12_driftsBy [rf g 68, .int (nI 5), .int x] m (RF (some (.int (x - mk))) (pM [12] n m)) := by
  refine JM_of (ls := [some (rf g 68), some (.int (nI 5)), some (.int x)]) pn_X12 rfl rfl ?_
  refine j_iload1 1 dX12_driftsBy_0 rfl ?_
  refine j_lookup 93 dX12_driftsBy_1 rfl rfl rfl ?_
  refine j_aload0 94 dX12_driftsBy_93 rfl ?_
  refine j_iload1 95 dX12_driftsBy_94 rfl ?_
  refine j_st1f 98 dX12_driftsBy_95 rfl rfl cl_X12_209 rfl (c_above _ (nI 5)) ?_
  refine j_top (z := nI 2) (by decide) ?_
  refine j_iload2 99 dX12_driftsBy_98 rfl ?_
  refine j_vi2f 102 dX12_driftsBy_99 rfl rfl cl_X12_270 rfl rfl (rd_2 m n hh k x mk h8 h hn) ?_
  refine j_iret dX12_driftsBy_102 rfl ?_
  exact ⟨rfl, rfl⟩
set_option maxRecDepth 100000 in
theorem rs_0_0 (m : Mem) (n hh : Nat) (x mk : Int32) (h8 : hh < 8) (h : RV m n hh 0 mk) (hn : n + 2 ≤ 40) : JM l g 5 mX12_shinesBy [rf g 68, .int (nI 0), .int x] m (RF (some (.int ((x + (nI hh)) * 2))) (pM [11, 10] n m)) := by
  refine JM_of (ls := [some (rf g 68), some (.int (nI 0)), some (.int x), none]) pn_X12 rfl rfl ?_
  refine j_iconst 1 (v := 0) dX12_shinesBy_0 rfl rfl ?_
  refine j_istore3 2 dX12_shinesBy_1 rfl rfl rfl ?_
  refine j_iload1 3 dX12_shinesBy_2 rfl ?_
  refine j_lookup 36 dX12_shinesBy_3 rfl rfl rfl ?_
  refine j_aload0 37 dX12_shinesBy_36 rfl ?_
  refine j_bipush 39 (v := 11) dX12_shinesBy_37 rfl rfl ?_
  refine j_vi1v 42 dX12_shinesBy_39 rfl rfl cl_X12_258 rfl rfl (v_ran m n 11 (by omega) h.1) ?_
  refine j_aload0 43 dX12_shinesBy_42 rfl ?_
  refine j_aload0 44 dX12_shinesBy_43 rfl ?_
  refine j_aload0 45 dX12_shinesBy_44 rfl ?_
  refine j_getI 48 dX12_shinesBy_45 rfl fl_X12_261 rfl rfl ?_
  refine j_top (h.psh [11]).2.1 ?_
  refine j_iconst 49 (v := nI 0) dX12_shinesBy_48 rfl rfl ?_
  refine j_vi2f 52 dX12_shinesBy_49 rfl rfl cl_X12_146 rfl rfl (c_of _ hh 0 h8 (by decide)) ?_
  refine j_top (h.psh [11]).2.2.1 ?_
  refine j_iload2 53 dX12_shinesBy_52 rfl ?_
  refine j_vi2f 56 dX12_shinesBy_53 rfl rfl cl_X12_264 rfl rfl (rl_0 _ (n + 1) hh 0 x mk h8 (h.psh [11]) (by omega)) ?_
  refine j_iconst 57 (v := 2) dX12_shinesBy_56 rfl rfl ?_
  refine j_imul 58 dX12_shinesBy_57 rfl ?_
  refine j_iret dX12_shinesBy_58 rfl ?_
  exact ⟨rfl, rfl⟩
set_option maxRecDepth 100000 in
theorem rs_0_1 (m : Mem) (n hh : Nat) (x mk : Int32) (h8 : hh < 8) (h : RV m n hh 1 mk) (hn : n + 3 ≤ 40) : JM l g 5 mX12_shinesBy [rf g 68, .int (nI 0), .int x] m (RF (some (.int (((x + (nI hh)) * 3) * 2))) (pM [11, 20, 10] n m)) := by
  refine JM_of (ls := [some (rf g 68), some (.int (nI 0)), some (.int x), none]) pn_X12 rfl rfl ?_
  refine j_iconst 1 (v := 0) dX12_shinesBy_0 rfl rfl ?_
  refine j_istore3 2 dX12_shinesBy_1 rfl rfl rfl ?_
  refine j_iload1 3 dX12_shinesBy_2 rfl ?_
  refine j_lookup 36 dX12_shinesBy_3 rfl rfl rfl ?_
  refine j_aload0 37 dX12_shinesBy_36 rfl ?_
  refine j_bipush 39 (v := 11) dX12_shinesBy_37 rfl rfl ?_
  refine j_vi1v 42 dX12_shinesBy_39 rfl rfl cl_X12_258 rfl rfl (v_ran m n 11 (by omega) h.1) ?_
  refine j_aload0 43 dX12_shinesBy_42 rfl ?_
  refine j_aload0 44 dX12_shinesBy_43 rfl ?_
  refine j_aload0 45 dX12_shinesBy_44 rfl ?_
  refine j_getI 48 dX12_shinesBy_45 rfl fl_X12_261 rfl rfl ?_
  refine j_top (h.psh [11]).2.1 ?_
  refine j_iconst 49 (v := nI 0) dX12_shinesBy_48 rfl rfl ?_
  refine j_vi2f 52 dX12_shinesBy_49 rfl rfl cl_X12_146 rfl rfl (c_of _ hh 0 h8 (by decide)) ?_
  refine j_top (h.psh [11]).2.2.1 ?_
  refine j_iload2 53 dX12_shinesBy_52 rfl ?_
  refine j_vi2f 56 dX12_shinesBy_53 rfl rfl cl_X12_264 rfl rfl (rl_1 _ (n + 1) hh 1 x mk h8 (h.psh [11]) (by omega)) ?_
  refine j_iconst 57 (v := 2) dX12_shinesBy_56 rfl rfl ?_
  refine j_imul 58 dX12_shinesBy_57 rfl ?_
  refine j_iret dX12_shinesBy_58 rfl ?_
  exact ⟨rfl, rfl⟩
set_option maxRecDepth 100000 in
theorem rs_0_2 (m : Mem) (n hh : Nat) (x mk : Int32) (h8 : hh < 8) (h : RV m n hh 2 mk) (hn : n + 2 ≤ 40) : JM l g 5 mX12_shinesBy [rf g 68, .int (nI 0), .int x] m (RF (some (.int ((x + (nI hh)) * 2))) (pM [11, 10] n m)) := by
  refine JM_of (ls := [some (rf g 68), some (.int (nI 0)), some (.int x), none]) pn_X12 rfl rfl ?_
  refine j_iconst 1 (v := 0) dX12_shinesBy_0 rfl rfl ?_
  refine j_istore3 2 dX12_shinesBy_1 rfl rfl rfl ?_
  refine j_iload1 3 dX12_shinesBy_2 rfl ?_
  refine j_lookup 36 dX12_shinesBy_3 rfl rfl rfl ?_
  refine j_aload0 37 dX12_shinesBy_36 rfl ?_
  refine j_bipush 39 (v := 11) dX12_shinesBy_37 rfl rfl ?_
  refine j_vi1v 42 dX12_shinesBy_39 rfl rfl cl_X12_258 rfl rfl (v_ran m n 11 (by omega) h.1) ?_
  refine j_aload0 43 dX12_shinesBy_42 rfl ?_
  refine j_aload0 44 dX12_shinesBy_43 rfl ?_
  refine j_aload0 45 dX12_shinesBy_44 rfl ?_
  refine j_getI 48 dX12_shinesBy_45 rfl fl_X12_261 rfl rfl ?_
  refine j_top (h.psh [11]).2.1 ?_
  refine j_iconst 49 (v := nI 0) dX12_shinesBy_48 rfl rfl ?_
  refine j_vi2f 52 dX12_shinesBy_49 rfl rfl cl_X12_146 rfl rfl (c_of _ hh 0 h8 (by decide)) ?_
  refine j_top (h.psh [11]).2.2.1 ?_
  refine j_iload2 53 dX12_shinesBy_52 rfl ?_
  refine j_vi2f 56 dX12_shinesBy_53 rfl rfl cl_X12_264 rfl rfl (rl_2 _ (n + 1) hh 2 x mk h8 (h.psh [11]) (by omega)) ?_
  refine j_iconst 57 (v := 2) dX12_shinesBy_56 rfl rfl ?_
  refine j_imul 58 dX12_shinesBy_57 rfl ?_
  refine j_iret dX12_shinesBy_58 rfl ?_
  exact ⟨rfl, rfl⟩
set_option maxRecDepth 100000 in
theorem rs_0_3 (m : Mem) (n hh : Nat) (x mk : Int32) (h8 : hh < 8) (h : RV m n hh 3 mk) (hn : n + 2 ≤ 40) : JM l g 5 mX12_shinesBy [rf g 68, .int (nI 0), .int x] m (RF (some (.int ((x + (nI hh)) * 2))) (pM [11, 10] n m)) := by
  refine JM_of (ls := [some (rf g 68), some (.int (nI 0)), some (.int x), none]) pn_X12 rfl rfl ?_
  refine j_iconst 1 (v := 0) dX12_shinesBy_0 rfl rfl ?_
  refine j_istore3 2 dX12_shinesBy_1 rfl rfl rfl ?_
  refine j_iload1 3 dX12_shinesBy_2 rfl ?_
  refine j_lookup 36 dX12_shinesBy_3 rfl rfl rfl ?_
  refine j_aload0 37 dX12_shinesBy_36 rfl ?_
  refine j_bipush 39 (v := 11) dX12_shinesBy_37 rfl rfl ?_
  refine j_vi1v 42 dX12_shinesBy_39 rfl rfl cl_X12_258 rfl rfl (v_ran m n 11 (by omega) h.1) ?_
  refine j_aload0 43 dX12_shinesBy_42 rfl ?_
  refine j_aload0 44 dX12_shinesBy_43 rfl ?_
  refine j_aload0 45 dX12_shinesBy_44 rfl ?_
  refine j_getI 48 dX12_shinesBy_45 rfl fl_X12_261 rfl rfl ?_
  refine j_top (h.psh [11]).2.1 ?_
  refine j_iconst 49 (v := nI 0) dX12_shinesBy_48 rfl rfl ?_
  refine j_vi2f 52 dX12_shinesBy_49 rfl rfl cl_X12_146 rfl rfl (c_of _ hh 0 h8 (by decide)) ?_
  refine j_top (h.psh [11]).2.2.1 ?_
  refine j_iload2 53 dX12_shinesBy_52 rfl ?_
  refine j_vi2f 56 dX12_shinesBy_53 rfl rfl cl_X12_264 rfl rfl (rl_3 _ (n + 1) hh 3 x mk h8 (h.psh [11]) (by omega)) ?_
  refine j_iconst 57 (v := 2) dX12_shinesBy_56 rfl rfl ?_
  refine j_imul 58 dX12_shinesBy_57 rfl ?_
  refine j_iret dX12_shinesBy_58 rfl ?_
  exact ⟨rfl, rfl⟩
set_option maxRecDepth 100000 in
theorem rs_0_4 (m : Mem) (n hh : Nat) (x mk : Int32) (h8 : hh < 8) (h : RV m n hh 4 mk) (hn : n + 3 ≤ 40) : JM l g 5 mX12_shinesBy [rf g 68, .int (nI 0), .int x] m (RF (some (.int (((x + (nI hh)) * 3) * 2))) (pM [11, 20, 10] n m)) := by
  refine JM_of (ls := [some (rf g 68), some (.int (nI 0)), some (.int x), none]) pn_X12 rfl rfl ?_
  refine j_iconst 1 (v := 0) dX12_shinesBy_0 rfl rfl ?_
  refine j_istore3 2 dX12_shinesBy_1 rfl rfl rfl ?_
  refine j_iload1 3 dX12_shinesBy_2 rfl ?_
  refine j_lookup 36 dX12_shinesBy_3 rfl rfl rfl ?_
  refine j_aload0 37 dX12_shinesBy_36 rfl ?_
  refine j_bipush 39 (v := 11) dX12_shinesBy_37 rfl rfl ?_
  refine j_vi1v 42 dX12_shinesBy_39 rfl rfl cl_X12_258 rfl rfl (v_ran m n 11 (by omega) h.1) ?_
  refine j_aload0 43 dX12_shinesBy_42 rfl ?_
  refine j_aload0 44 dX12_shinesBy_43 rfl ?_
  refine j_aload0 45 dX12_shinesBy_44 rfl ?_
  refine j_getI 48 dX12_shinesBy_45 rfl fl_X12_261 rfl rfl ?_
  refine j_top (h.psh [11]).2.1 ?_
  refine j_iconst 49 (v := nI 0) dX12_shinesBy_48 rfl rfl ?_
  refine j_vi2f 52 dX12_shinesBy_49 rfl rfl cl_X12_146 rfl rfl (c_of _ hh 0 h8 (by decide)) ?_
  refine j_top (h.psh [11]).2.2.1 ?_
  refine j_iload2 53 dX12_shinesBy_52 rfl ?_
  refine j_vi2f 56 dX12_shinesBy_53 rfl rfl cl_X12_264 rfl rfl (rl_4 _ (n + 1) hh 4 x mk h8 (h.psh [11]) (by omega)) ?_
  refine j_iconst 57 (v := 2) dX12_shinesBy_56 rfl rfl ?_
  refine j_imul 58 dX12_shinesBy_57 rfl ?_
  refine j_iret dX12_shinesBy_58 rfl ?_
  exact ⟨rfl, rfl⟩
set_option maxRecDepth 100000 in
theorem rs_0_5 (m : Mem) (n hh : Nat) (x mk : Int32) (h8 : hh < 8) (h : RV m n hh 5 mk) (hn : n + 2 ≤ 40) : JM l g 5 mX12_shinesBy [rf g 68, .int (nI 0), .int x] m (RF (some (.int ((x + (nI hh)) * 2))) (pM [11, 10] n m)) := by
  refine JM_of (ls := [some (rf g 68), some (.int (nI 0)), some (.int x), none]) pn_X12 rfl rfl ?_
  refine j_iconst 1 (v := 0) dX12_shinesBy_0 rfl rfl ?_
  refine j_istore3 2 dX12_shinesBy_1 rfl rfl rfl ?_
  refine j_iload1 3 dX12_shinesBy_2 rfl ?_
  refine j_lookup 36 dX12_shinesBy_3 rfl rfl rfl ?_
  refine j_aload0 37 dX12_shinesBy_36 rfl ?_
  refine j_bipush 39 (v := 11) dX12_shinesBy_37 rfl rfl ?_
  refine j_vi1v 42 dX12_shinesBy_39 rfl rfl cl_X12_258 rfl rfl (v_ran m n 11 (by omega) h.1) ?_
  refine j_aload0 43 dX12_shinesBy_42 rfl ?_
  refine j_aload0 44 dX12_shinesBy_43 rfl ?_
  refine j_aload0 45 dX12_shinesBy_44 rfl ?_
  refine j_getI 48 dX12_shinesBy_45 rfl fl_X12_261 rfl rfl ?_
  refine j_top (h.psh [11]).2.1 ?_
  refine j_iconst 49 (v := nI 0) dX12_shinesBy_48 rfl rfl ?_
  refine j_vi2f 52 dX12_shinesBy_49 rfl rfl cl_X12_146 rfl rfl (c_of _ hh 0 h8 (by decide)) ?_
  refine j_top (h.psh [11]).2.2.1 ?_
  refine j_iload2 53 dX12_shinesBy_52 rfl ?_
  refine j_vi2f 56 dX12_shinesBy_53 rfl rfl cl_X12_264 rfl rfl (rl_5 _ (n + 1) hh 5 x mk h8 (h.psh [11]) (by omega)) ?_
  refine j_iconst 57 (v := 2) dX12_shinesBy_56 rfl rfl ?_
  refine j_imul 58 dX12_shinesBy_57 rfl ?_
  refine j_iret dX12_shinesBy_58 rfl ?_
  exact ⟨rfl, rfl⟩
set_option maxRecDepth 100000 in
theorem rs_0_6 (m : Mem) (n hh : Nat) (x mk : Int32) (h8 : hh < 8) (h : RV m n hh 6 mk) (hn : n + 2 ≤ 40) : JM l g 5 mX12_shinesBy [rf g 68, .int (nI 0), .int x] m (RF (some (.int ((x + (nI hh)) * 2))) (pM [11, 10] n m)) := by
  refine JM_of (ls := [some (rf g 68), some (.int (nI 0)), some (.int x), none]) pn_X12 rfl rfl ?_
  refine j_iconst 1 (v := 0) dX12_shinesBy_0 rfl rfl ?_
  refine j_istore3 2 dX12_shinesBy_1 rfl rfl rfl ?_
  refine j_iload1 3 dX12_shinesBy_2 rfl ?_
  refine j_lookup 36 dX12_shinesBy_3 rfl rfl rfl ?_
  refine j_aload0 37 dX12_shinesBy_36 rfl ?_
  refine j_bipush 39 (v := 11) dX12_shinesBy_37 rfl rfl ?_
  refine j_vi1v 42 dX12_shinesBy_39 rfl rfl cl_X12_258 rfl rfl (v_ran m n 11 (by omega) h.1) ?_
  refine j_aload0 43 dX12_shinesBy_42 rfl ?_
  refine j_aload0 44 dX12_shinesBy_43 rfl ?_
  refine j_aload0 45 dX12_shinesBy_44 rfl ?_
  refine j_getI 48 dX12_shinesBy_45 rfl fl_X12_261 rfl rfl ?_
  refine j_top (h.psh [11]).2.1 ?_
  refine j_iconst 49 (v := nI 0) dX12_shinesBy_48 rfl rfl ?_
  refine j_vi2f 52 dX12_shinesBy_49 rfl rfl cl_X12_146 rfl rfl (c_of _ hh 0 h8 (by decide)) ?_
  refine j_top (h.psh [11]).2.2.1 ?_
  refine j_iload2 53 dX12_shinesBy_52 rfl ?_
  refine j_vi2f 56 dX12_shinesBy_53 rfl rfl cl_X12_264 rfl rfl (rl_6 _ (n + 1) hh 6 x mk h8 (h.psh [11]) (by omega)) ?_
  refine j_iconst 57 (v := 2) dX12_shinesBy_56 rfl rfl ?_
  refine j_imul 58 dX12_shinesBy_57 rfl ?_
  refine j_iret dX12_shinesBy_58 rfl ?_
  exact ⟨rfl, rfl⟩
set_option maxRecDepth 100000 in
theorem rs_2_2 (m : Mem) (n hh : Nat) (x mk : Int32) (h8 : hh < 8) (h : RV m n hh 2 mk) (hn : n + 4 ≤ 40) : JM l g 6 mX12_shinesBy [rf g 68, .int (nI 2), .int x] m (RF (some (.int (((x + (nI hh)) * 2) - (1 - mk)))) (pM [30, 11, 10, 12] n m)) := by
  refine JM_of (ls := [some (rf g 68), some (.int (nI 2)), some (.int x), none]) pn_X12 rfl rfl ?_
  refine j_iconst 1 (v := 0) dX12_shinesBy_0 rfl rfl ?_
  refine j_istore3 2 dX12_shinesBy_1 rfl rfl rfl ?_
  refine j_iload1 3 dX12_shinesBy_2 rfl ?_
  refine j_lookup 59 dX12_shinesBy_3 rfl rfl rfl ?_
  refine j_aload0 60 dX12_shinesBy_59 rfl ?_
  refine j_bipush 62 (v := 30) dX12_shinesBy_60 rfl rfl ?_
  refine j_vi1v 65 dX12_shinesBy_62 rfl rfl cl_X12_258 rfl rfl (v_ran m n 30 (by omega) h.1) ?_
  refine j_aload0 66 dX12_shinesBy_65 rfl ?_
  refine j_iconst 67 (v := nI 2) dX12_shinesBy_66 rfl rfl ?_
  refine j_st1f 70 dX12_shinesBy_67 rfl rfl cl_X12_209 rfl (c_above _ (nI 2)) ?_
  refine j_top (z := nI 0) (by decide) ?_
  refine j_iload2 71 dX12_shinesBy_70 rfl ?_
  refine j_vi2f 74 dX12_shinesBy_71 rfl rfl cl_X12_267 rfl rfl (rs_0_2 _ (n + 1) hh x mk h8 (h.psh [30]) (by omega)) ?_
  refine j_istore3 75 dX12_shinesBy_74 rfl rfl rfl ?_
  refine j_iload3 76 dX12_shinesBy_75 rfl ?_
  refine j_aload0 77 dX12_shinesBy_76 rfl ?_
  refine j_aload0 78 dX12_shinesBy_77 rfl ?_
  refine j_aload0 79 dX12_shinesBy_78 rfl ?_
  refine j_getI 82 dX12_shinesBy_79 rfl fl_X12_261 rfl rfl ?_
  refine j_top (h.psh [30, 11, 10]).2.1 ?_
  refine j_iconst 83 (v := nI 0) dX12_shinesBy_82 rfl rfl ?_
  refine j_vi2f 86 dX12_shinesBy_83 rfl rfl cl_X12_146 rfl rfl (c_of _ hh 0 h8 (by decide)) ?_
  refine j_top (h.psh [30, 11, 10]).2.2.1 ?_
  refine j_iconst 87 (v := 1) dX12_shinesBy_86 rfl rfl ?_
  refine j_vi2f 90 dX12_shinesBy_87 rfl rfl cl_X12_270 rfl rfl (rd_2 _ (n + 3) hh 2 1 mk h8 (h.psh [30, 11, 10]) (by omega)) ?_
  refine j_isub 91 dX12_shinesBy_90 rfl ?_
  refine j_iret dX12_shinesBy_91 rfl ?_
  exact ⟨rfl, rfl⟩
set_option maxRecDepth 100000 in
theorem rs_2_5 (m : Mem) (n hh : Nat) (x mk : Int32) (h8 : hh < 8) (h : RV m n hh 5 mk) (hn : n + 4 ≤ 40) : JM l g 6 mX12_shinesBy [rf g 68, .int (nI 2), .int x] m (RF (some (.int (((x + (nI hh)) * 2) - (1 - mk)))) (pM [30, 11, 10, 12] n m)) := by
  refine JM_of (ls := [some (rf g 68), some (.int (nI 2)), some (.int x), none]) pn_X12 rfl rfl ?_
  refine j_iconst 1 (v := 0) dX12_shinesBy_0 rfl rfl ?_
  refine j_istore3 2 dX12_shinesBy_1 rfl rfl rfl ?_
  refine j_iload1 3 dX12_shinesBy_2 rfl ?_
  refine j_lookup 59 dX12_shinesBy_3 rfl rfl rfl ?_
  refine j_aload0 60 dX12_shinesBy_59 rfl ?_
  refine j_bipush 62 (v := 30) dX12_shinesBy_60 rfl rfl ?_
  refine j_vi1v 65 dX12_shinesBy_62 rfl rfl cl_X12_258 rfl rfl (v_ran m n 30 (by omega) h.1) ?_
  refine j_aload0 66 dX12_shinesBy_65 rfl ?_
  refine j_iconst 67 (v := nI 2) dX12_shinesBy_66 rfl rfl ?_
  refine j_st1f 70 dX12_shinesBy_67 rfl rfl cl_X12_209 rfl (c_above _ (nI 2)) ?_
  refine j_top (z := nI 0) (by decide) ?_
  refine j_iload2 71 dX12_shinesBy_70 rfl ?_
  refine j_vi2f 74 dX12_shinesBy_71 rfl rfl cl_X12_267 rfl rfl (rs_0_5 _ (n + 1) hh x mk h8 (h.psh [30]) (by omega)) ?_
  refine j_istore3 75 dX12_shinesBy_74 rfl rfl rfl ?_
  refine j_iload3 76 dX12_shinesBy_75 rfl ?_
  refine j_aload0 77 dX12_shinesBy_76 rfl ?_
  refine j_aload0 78 dX12_shinesBy_77 rfl ?_
  refine j_aload0 79 dX12_shinesBy_78 rfl ?_
  refine j_getI 82 dX12_shinesBy_79 rfl fl_X12_261 rfl rfl ?_
  refine j_top (h.psh [30, 11, 10]).2.1 ?_
  refine j_iconst 83 (v := nI 0) dX12_shinesBy_82 rfl rfl ?_
  refine j_vi2f 86 dX12_shinesBy_83 rfl rfl cl_X12_146 rfl rfl (c_of _ hh 0 h8 (by decide)) ?_
  refine j_top (h.psh [30, 11, 10]).2.2.1 ?_
  refine j_iconst 87 (v := 1) dX12_shinesBy_86 rfl rfl ?_
  refine j_vi2f 90 dX12_shinesBy_87 rfl rfl cl_X12_270 rfl rfl (rd_5 _ (n + 3) hh 5 1 mk h8 (h.psh [30, 11, 10]) (by omega)) ?_
  refine j_isub 91 dX12_shinesBy_90 rfl ?_
  refine j_iret dX12_shinesBy_91 rfl ?_
  exact ⟨rfl, rfl⟩
set_option maxRecDepth 100000 in
theorem rs_5_5 (m : Mem) (n hh : Nat) (x mk : Int32) (h8 : hh < 8) (h : RV m n hh 5 mk) (hn : n + 5 ≤ 40) : JM l g 7 mX12_shinesBy [rf g 68, .int (nI 5), .int x] m (RF (some (.int ((((x + 1) + (nI hh)) * 2) - (1 - mk)))) (pM [60, 30, 11, 10, 12] n m)) := by
  refine JM_of (ls := [some (rf g 68), some (.int (nI 5)), some (.int x), none]) pn_X12 rfl rfl ?_
  refine j_iconst 1 (v := 0) dX12_shinesBy_0 rfl rfl ?_
  refine j_istore3 2 dX12_shinesBy_1 rfl rfl rfl ?_
  refine j_iload1 3 dX12_shinesBy_2 rfl ?_
  refine j_lookup 92 dX12_shinesBy_3 rfl rfl rfl ?_
  refine j_aload0 93 dX12_shinesBy_92 rfl ?_
  refine j_bipush 95 (v := 60) dX12_shinesBy_93 rfl rfl ?_
  refine j_vi1v 98 dX12_shinesBy_95 rfl rfl cl_X12_258 rfl rfl (v_ran m n 60 (by omega) h.1) ?_
  refine j_aload0 99 dX12_shinesBy_98 rfl ?_
  refine j_iconst 100 (v := nI 5) dX12_shinesBy_99 rfl rfl ?_
  refine j_st1f 103 dX12_shinesBy_100 rfl rfl cl_X12_209 rfl (c_above _ (nI 5)) ?_
  refine j_top (z := nI 2) (by decide) ?_
  refine j_iload2 104 dX12_shinesBy_103 rfl ?_
  refine j_iconst 105 (v := 1) dX12_shinesBy_104 rfl rfl ?_
  refine j_iadd 106 dX12_shinesBy_105 rfl ?_
  refine j_vi2f 109 dX12_shinesBy_106 rfl rfl cl_X12_267 rfl rfl (rs_2_5 _ (n + 1) hh (x + 1) mk h8 (h.psh [60]) (by omega)) ?_
  refine j_iret dX12_shinesBy_109 rfl ?_
  exact ⟨rfl, rfl⟩
set_option maxRecDepth 100000 in
theorem rs_1_1 (m : Mem) (n hh : Nat) (x mk : Int32) (h8 : hh < 8) (h : RV m n hh 1 mk) (hn : n + 3 ≤ 40) : JM l g 6 mX12_shinesBy [rf g 68, .int (nI 1), .int x] m (RF (some (.int (((x + (nI hh)) * 3) * 2))) (pM [11, 20, 10] n m)) := by
  refine JM_of (ls := [some (rf g 68), some (.int (nI 1)), some (.int x), none]) pn_X12 rfl rfl ?_
  refine j_iconst 1 (v := 0) dX12_shinesBy_0 rfl rfl ?_
  refine j_istore3 2 dX12_shinesBy_1 rfl rfl rfl ?_
  refine j_iload1 3 dX12_shinesBy_2 rfl ?_
  refine j_lookup 110 dX12_shinesBy_3 rfl rfl rfl ?_
  refine j_aload0 111 dX12_shinesBy_110 rfl ?_
  refine j_iload1 112 dX12_shinesBy_111 rfl ?_
  refine j_st1f 115 dX12_shinesBy_112 rfl rfl cl_X12_209 rfl (c_above _ (nI 1)) ?_
  refine j_top (z := nI 0) (by decide) ?_
  refine j_iload2 116 dX12_shinesBy_115 rfl ?_
  refine j_vi2f 119 dX12_shinesBy_116 rfl rfl cl_X12_267 rfl rfl (rs_0_1 m n hh x mk h8 h hn) ?_
  refine j_iret dX12_shinesBy_119 rfl ?_
  exact ⟨rfl, rfl⟩
set_option maxRecDepth 100000 in
theorem rs_3_3 (m : Mem) (n hh : Nat) (x mk : Int32) (h8 : hh < 8) (h : RV m n hh 3 mk) (hn : n + 2 ≤ 40) : JM l g 6 mX12_shinesBy [rf g 68, .int (nI 3), .int x] m (RF (some (.int ((x + (nI hh)) * 2))) (pM [11, 10] n m)) := by
  refine JM_of (ls := [some (rf g 68), some (.int (nI 3)), some (.int x), none]) pn_X12 rfl rfl ?_
  refine j_iconst 1 (v := 0) dX12_shinesBy_0 rfl rfl ?_
  refine j_istore3 2 dX12_shinesBy_1 rfl rfl rfl ?_
  refine j_iload1 3 dX12_shinesBy_2 rfl ?_
  refine j_lookup 110 dX12_shinesBy_3 rfl rfl rfl ?_
  refine j_aload0 111 dX12_shinesBy_110 rfl ?_
  refine j_iload1 112 dX12_shinesBy_111 rfl ?_
  refine j_st1f 115 dX12_shinesBy_112 rfl rfl cl_X12_209 rfl (c_above _ (nI 3)) ?_
  refine j_top (z := nI 0) (by decide) ?_
  refine j_iload2 116 dX12_shinesBy_115 rfl ?_
  refine j_vi2f 119 dX12_shinesBy_116 rfl rfl cl_X12_267 rfl rfl (rs_0_3 m n hh x mk h8 h hn) ?_
  refine j_iret dX12_shinesBy_119 rfl ?_
  exact ⟨rfl, rfl⟩
set_option maxRecDepth 100000 in
theorem rs_1_4 (m : Mem) (n hh : Nat) (x mk : Int32) (h8 : hh < 8) (h : RV m n hh 4 mk) (hn : n + 3 ≤ 40) : JM l g 6 mX12_shinesBy [rf g 68, .int (nI 1), .int x] m (RF (some (.int (((x + (nI hh)) * 3) * 2))) (pM [11, 20, 10] n m)) := by
  refine JM_of (ls := [some (rf g 68), some (.int (nI 1)), some (.int x), none]) pn_X12 rfl rfl ?_
  refine j_iconst 1 (v := 0) dX12_shinesBy_0 rfl rfl ?_
  refine j_istore3 2 dX12_shinesBy_1 rfl rfl rfl ?_
  refine j_iload1 3 dX12_shinesBy_2 rfl ?_
  refine j_lookup 110 dX12_shinesBy_3 rfl rfl rfl ?_
  refine j_aload0 111 dX12_shinesBy_110 rfl ?_
  refine j_iload1 112 dX12_shinesBy_111 rfl ?_
  refine j_st1f 115 dX12_shinesBy_112 rfl rfl cl_X12_209 rfl (c_above _ (nI 1)) ?_
  refine j_top (z := nI 0) (by decide) ?_
  refine j_iload2 116 dX12_shinesBy_115 rfl ?_
  refine j_vi2f 119 dX12_shinesBy_116 rfl rfl cl_X12_267 rfl rfl (rs_0_4 m n hh x mk h8 h hn) ?_
  refine j_iret dX12_shinesBy_119 rfl ?_
  exact ⟨rfl, rfl⟩
set_option maxRecDepth 100000 in
theorem rs_3_6 (m : Mem) (n hh : Nat) (x mk : Int32) (h8 : hh < 8) (h : RV m n hh 6 mk) (hn : n + 2 ≤ 40) : JM l g 6 mX12_shinesBy [rf g 68, .int (nI 3), .int x] m (RF (some (.int ((x + (nI hh)) * 2))) (pM [11, 10] n m)) := by
  refine JM_of (ls := [some (rf g 68), some (.int (nI 3)), some (.int x), none]) pn_X12 rfl rfl ?_
  refine j_iconst 1 (v := 0) dX12_shinesBy_0 rfl rfl ?_
  refine j_istore3 2 dX12_shinesBy_1 rfl rfl rfl ?_
  refine j_iload1 3 dX12_shinesBy_2 rfl ?_
  refine j_lookup 110 dX12_shinesBy_3 rfl rfl rfl ?_
  refine j_aload0 111 dX12_shinesBy_110 rfl ?_
  refine j_iload1 112 dX12_shinesBy_111 rfl ?_
  refine j_st1f 115 dX12_shinesBy_112 rfl rfl cl_X12_209 rfl (c_above _ (nI 3)) ?_
  refine j_top (z := nI 0) (by decide) ?_
  refine j_iload2 116 dX12_shinesBy_115 rfl ?_
  refine j_vi2f 119 dX12_shinesBy_116 rfl rfl cl_X12_267 rfl rfl (rs_0_6 m n hh x mk h8 h hn) ?_
  refine j_iret dX12_shinesBy_119 rfl ?_
  exact ⟨rfl, rfl⟩
set_option maxRecDepth 100000 in
theorem rs_4_4 (m : Mem) (n hh : Nat) (x mk : Int32) (h8 : hh < 8) (h : RV m n hh 4 mk) (hn : n + 3 ≤ 40) : JM l g 7 mX12_shinesBy [rf g 68, .int (nI 4), .int x] m (RF (some (.int (((x + (nI hh)) * 3) * 2))) (pM [11, 20, 10] n m)) := by
  refine JM_of (ls := [some (rf g 68), some (.int (nI 4)), some (.int x), none]) pn_X12 rfl rfl ?_
  refine j_iconst 1 (v := 0) dX12_shinesBy_0 rfl rfl ?_
  refine j_istore3 2 dX12_shinesBy_1 rfl rfl rfl ?_
  refine j_iload1 3 dX12_shinesBy_2 rfl ?_
  refine j_lookup 110 dX12_shinesBy_3 rfl rfl rfl ?_
  refine j_aload0 111 dX12_shinesBy_110 rfl ?_
  refine j_iload1 112 dX12_shinesBy_111 rfl ?_
  refine j_st1f 115 dX12_shinesBy_112 rfl rfl cl_X12_209 rfl (c_above _ (nI 4)) ?_
  refine j_top (z := nI 1) (by decide) ?_
  refine j_iload2 116 dX12_shinesBy_115 rfl ?_
  refine j_vi2f 119 dX12_shinesBy_116 rfl rfl cl_X12_267 rfl rfl (rs_1_4 m n hh x mk h8 h hn) ?_
  refine j_iret dX12_shinesBy_119 rfl ?_
  exact ⟨rfl, rfl⟩
set_option maxRecDepth 100000 in
theorem rs_6_6 (m : Mem) (n hh : Nat) (x mk : Int32) (h8 : hh < 8) (h : RV m n hh 6 mk) (hn : n + 2 ≤ 40) : JM l g 7 mX12_shinesBy [rf g 68, .int (nI 6), .int x] m (RF (some (.int ((x + (nI hh)) * 2))) (pM [11, 10] n m)) := by
  refine JM_of (ls := [some (rf g 68), some (.int (nI 6)), some (.int x), none]) pn_X12 rfl rfl ?_
  refine j_iconst 1 (v := 0) dX12_shinesBy_0 rfl rfl ?_
  refine j_istore3 2 dX12_shinesBy_1 rfl rfl rfl ?_
  refine j_iload1 3 dX12_shinesBy_2 rfl ?_
  refine j_lookup 110 dX12_shinesBy_3 rfl rfl rfl ?_
  refine j_aload0 111 dX12_shinesBy_110 rfl ?_
  refine j_iload1 112 dX12_shinesBy_111 rfl ?_
  refine j_st1f 115 dX12_shinesBy_112 rfl rfl cl_X12_209 rfl (c_above _ (nI 6)) ?_
  refine j_top (z := nI 3) (by decide) ?_
  refine j_iload2 116 dX12_shinesBy_115 rfl ?_
  refine j_vi2f 119 dX12_shinesBy_116 rfl rfl cl_X12_267 rfl rfl (rs_3_6 m n hh x mk h8 h hn) ?_
  refine j_iret dX12_shinesBy_119 rfl ?_
  exact ⟨rfl, rfl⟩
set_option maxRecDepth 100000 in
theorem rt_0_0 (m : Mem) (n hh : Nat) (x mk : Int32) (h8 : hh < 8) (h : RV m n hh 0 mk) (hn : n + 4 ≤ 40) : JM l g 8 mX12_tellsBy [rf g 68, .int (nI 0), .int x] m (RF (some (.int (((x + (nI hh)) * 2) ^^^ (x - mk)))) (pM [13, 11, 10, 12] n m)) := by
  refine JM_of (ls := [some (rf g 68), some (.int (nI 0)), some (.int x), none]) pn_X12 rfl rfl ?_
  refine j_iconst 1 (v := 0) dX12_tellsBy_0 rfl rfl ?_
  refine j_istore3 2 dX12_tellsBy_1 rfl rfl rfl ?_
  refine j_iload1 3 dX12_tellsBy_2 rfl ?_
  refine j_lookup 36 dX12_tellsBy_3 rfl rfl rfl ?_
  refine j_aload0 37 dX12_tellsBy_36 rfl ?_
  refine j_bipush 39 (v := 13) dX12_tellsBy_37 rfl rfl ?_
  refine j_vi1v 42 dX12_tellsBy_39 rfl rfl cl_X12_258 rfl rfl (v_ran m n 13 (by omega) h.1) ?_
  refine j_aload0 43 dX12_tellsBy_42 rfl ?_
  refine j_aload0 44 dX12_tellsBy_43 rfl ?_
  refine j_aload0 45 dX12_tellsBy_44 rfl ?_
  refine j_getI 48 dX12_tellsBy_45 rfl fl_X12_261 rfl rfl ?_
  refine j_top (h.psh [13]).2.1 ?_
  refine j_iconst 49 (v := nI 0) dX12_tellsBy_48 rfl rfl ?_
  refine j_vi2f 52 dX12_tellsBy_49 rfl rfl cl_X12_146 rfl rfl (c_of _ hh 0 h8 (by decide)) ?_
  refine j_top (h.psh [13]).2.2.1 ?_
  refine j_iload2 53 dX12_tellsBy_52 rfl ?_
  refine j_vi2f 56 dX12_tellsBy_53 rfl rfl cl_X12_267 rfl rfl (rs_0_0 _ (n + 1) hh x mk h8 (h.psh [13]) (by omega)) ?_
  refine j_istore3 57 dX12_tellsBy_56 rfl rfl rfl ?_
  refine j_iload3 58 dX12_tellsBy_57 rfl ?_
  refine j_aload0 59 dX12_tellsBy_58 rfl ?_
  refine j_aload0 60 dX12_tellsBy_59 rfl ?_
  refine j_aload0 61 dX12_tellsBy_60 rfl ?_
  refine j_getI 64 dX12_tellsBy_61 rfl fl_X12_261 rfl rfl ?_
  refine j_top (h.psh [13, 11, 10]).2.1 ?_
  refine j_iconst 65 (v := nI 0) dX12_tellsBy_64 rfl rfl ?_
  refine j_vi2f 68 dX12_tellsBy_65 rfl rfl cl_X12_146 rfl rfl (c_of _ hh 0 h8 (by decide)) ?_
  refine j_top (h.psh [13, 11, 10]).2.2.1 ?_
  refine j_iload2 69 dX12_tellsBy_68 rfl ?_
  refine j_vi2f 72 dX12_tellsBy_69 rfl rfl cl_X12_270 rfl rfl (rd_0 _ (n + 3) hh 0 x mk h8 (h.psh [13, 11, 10]) (by omega)) ?_
  refine j_ixor 73 dX12_tellsBy_72 rfl ?_
  refine j_iret dX12_tellsBy_73 rfl ?_
  exact ⟨rfl, rfl⟩
set_option maxRecDepth 100000 in
theorem rt_0_1 (m : Mem) (n hh : Nat) (x mk : Int32) (h8 : hh < 8) (h : RV m n hh 1 mk) (hn : n + 5 ≤ 40) : JM l g 8 mX12_tellsBy [rf g 68, .int (nI 0), .int x] m (RF (some (.int ((((x + (nI hh)) * 3) * 2) ^^^ (x - mk)))) (pM [13, 11, 20, 10, 12] n m)) := by
  refine JM_of (ls := [some (rf g 68), some (.int (nI 0)), some (.int x), none]) pn_X12 rfl rfl ?_
  refine j_iconst 1 (v := 0) dX12_tellsBy_0 rfl rfl ?_
  refine j_istore3 2 dX12_tellsBy_1 rfl rfl rfl ?_
  refine j_iload1 3 dX12_tellsBy_2 rfl ?_
  refine j_lookup 36 dX12_tellsBy_3 rfl rfl rfl ?_
  refine j_aload0 37 dX12_tellsBy_36 rfl ?_
  refine j_bipush 39 (v := 13) dX12_tellsBy_37 rfl rfl ?_
  refine j_vi1v 42 dX12_tellsBy_39 rfl rfl cl_X12_258 rfl rfl (v_ran m n 13 (by omega) h.1) ?_
  refine j_aload0 43 dX12_tellsBy_42 rfl ?_
  refine j_aload0 44 dX12_tellsBy_43 rfl ?_
  refine j_aload0 45 dX12_tellsBy_44 rfl ?_
  refine j_getI 48 dX12_tellsBy_45 rfl fl_X12_261 rfl rfl ?_
  refine j_top (h.psh [13]).2.1 ?_
  refine j_iconst 49 (v := nI 0) dX12_tellsBy_48 rfl rfl ?_
  refine j_vi2f 52 dX12_tellsBy_49 rfl rfl cl_X12_146 rfl rfl (c_of _ hh 0 h8 (by decide)) ?_
  refine j_top (h.psh [13]).2.2.1 ?_
  refine j_iload2 53 dX12_tellsBy_52 rfl ?_
  refine j_vi2f 56 dX12_tellsBy_53 rfl rfl cl_X12_267 rfl rfl (rs_1_1 _ (n + 1) hh x mk h8 (h.psh [13]) (by omega)) ?_
  refine j_istore3 57 dX12_tellsBy_56 rfl rfl rfl ?_
  refine j_iload3 58 dX12_tellsBy_57 rfl ?_
  refine j_aload0 59 dX12_tellsBy_58 rfl ?_
  refine j_aload0 60 dX12_tellsBy_59 rfl ?_
  refine j_aload0 61 dX12_tellsBy_60 rfl ?_
  refine j_getI 64 dX12_tellsBy_61 rfl fl_X12_261 rfl rfl ?_
  refine j_top (h.psh [13, 11, 20, 10]).2.1 ?_
  refine j_iconst 65 (v := nI 0) dX12_tellsBy_64 rfl rfl ?_
  refine j_vi2f 68 dX12_tellsBy_65 rfl rfl cl_X12_146 rfl rfl (c_of _ hh 0 h8 (by decide)) ?_
  refine j_top (h.psh [13, 11, 20, 10]).2.2.1 ?_
  refine j_iload2 69 dX12_tellsBy_68 rfl ?_
  refine j_vi2f 72 dX12_tellsBy_69 rfl rfl cl_X12_270 rfl rfl (rd_1 _ (n + 4) hh 1 x mk h8 (h.psh [13, 11, 20, 10]) (by omega)) ?_
  refine j_ixor 73 dX12_tellsBy_72 rfl ?_
  refine j_iret dX12_tellsBy_73 rfl ?_
  exact ⟨rfl, rfl⟩
set_option maxRecDepth 100000 in
theorem rt_0_2 (m : Mem) (n hh : Nat) (x mk : Int32) (h8 : hh < 8) (h : RV m n hh 2 mk) (hn : n + 6 ≤ 40) : JM l g 8 mX12_tellsBy [rf g 68, .int (nI 0), .int x] m (RF (some (.int ((((x + (nI hh)) * 2) - (1 - mk)) ^^^ (x - mk)))) (pM [13, 30, 11, 10, 12, 12] n m)) := by
  refine JM_of (ls := [some (rf g 68), some (.int (nI 0)), some (.int x), none]) pn_X12 rfl rfl ?_
  refine j_iconst 1 (v := 0) dX12_tellsBy_0 rfl rfl ?_
  refine j_istore3 2 dX12_tellsBy_1 rfl rfl rfl ?_
  refine j_iload1 3 dX12_tellsBy_2 rfl ?_
  refine j_lookup 36 dX12_tellsBy_3 rfl rfl rfl ?_
  refine j_aload0 37 dX12_tellsBy_36 rfl ?_
  refine j_bipush 39 (v := 13) dX12_tellsBy_37 rfl rfl ?_
  refine j_vi1v 42 dX12_tellsBy_39 rfl rfl cl_X12_258 rfl rfl (v_ran m n 13 (by omega) h.1) ?_
  refine j_aload0 43 dX12_tellsBy_42 rfl ?_
  refine j_aload0 44 dX12_tellsBy_43 rfl ?_
  refine j_aload0 45 dX12_tellsBy_44 rfl ?_
  refine j_getI 48 dX12_tellsBy_45 rfl fl_X12_261 rfl rfl ?_
  refine j_top (h.psh [13]).2.1 ?_
  refine j_iconst 49 (v := nI 0) dX12_tellsBy_48 rfl rfl ?_
  refine j_vi2f 52 dX12_tellsBy_49 rfl rfl cl_X12_146 rfl rfl (c_of _ hh 0 h8 (by decide)) ?_
  refine j_top (h.psh [13]).2.2.1 ?_
  refine j_iload2 53 dX12_tellsBy_52 rfl ?_
  refine j_vi2f 56 dX12_tellsBy_53 rfl rfl cl_X12_267 rfl rfl (rs_2_2 _ (n + 1) hh x mk h8 (h.psh [13]) (by omega)) ?_
  refine j_istore3 57 dX12_tellsBy_56 rfl rfl rfl ?_
  refine j_iload3 58 dX12_tellsBy_57 rfl ?_
  refine j_aload0 59 dX12_tellsBy_58 rfl ?_
  refine j_aload0 60 dX12_tellsBy_59 rfl ?_
  refine j_aload0 61 dX12_tellsBy_60 rfl ?_
  refine j_getI 64 dX12_tellsBy_61 rfl fl_X12_261 rfl rfl ?_
  refine j_top (h.psh [13, 30, 11, 10, 12]).2.1 ?_
  refine j_iconst 65 (v := nI 0) dX12_tellsBy_64 rfl rfl ?_
  refine j_vi2f 68 dX12_tellsBy_65 rfl rfl cl_X12_146 rfl rfl (c_of _ hh 0 h8 (by decide)) ?_
  refine j_top (h.psh [13, 30, 11, 10, 12]).2.2.1 ?_
  refine j_iload2 69 dX12_tellsBy_68 rfl ?_
  refine j_vi2f 72 dX12_tellsBy_69 rfl rfl cl_X12_270 rfl rfl (rd_2 _ (n + 5) hh 2 x mk h8 (h.psh [13, 30, 11, 10, 12]) (by omega)) ?_
  refine j_ixor 73 dX12_tellsBy_72 rfl ?_
  refine j_iret dX12_tellsBy_73 rfl ?_
  exact ⟨rfl, rfl⟩
set_option maxRecDepth 100000 in
theorem rt_0_3 (m : Mem) (n hh : Nat) (x mk : Int32) (h8 : hh < 8) (h : RV m n hh 3 mk) (hn : n + 5 ≤ 40) : JM l g 8 mX12_tellsBy [rf g 68, .int (nI 0), .int x] m (RF (some (.int (((x + (nI hh)) * 2) ^^^ (-(x - mk))))) (pM [13, 11, 10, 40, 12] n m)) := by
  refine JM_of (ls := [some (rf g 68), some (.int (nI 0)), some (.int x), none]) pn_X12 rfl rfl ?_
  refine j_iconst 1 (v := 0) dX12_tellsBy_0 rfl rfl ?_
  refine j_istore3 2 dX12_tellsBy_1 rfl rfl rfl ?_
  refine j_iload1 3 dX12_tellsBy_2 rfl ?_
  refine j_lookup 36 dX12_tellsBy_3 rfl rfl rfl ?_
  refine j_aload0 37 dX12_tellsBy_36 rfl ?_
  refine j_bipush 39 (v := 13) dX12_tellsBy_37 rfl rfl ?_
  refine j_vi1v 42 dX12_tellsBy_39 rfl rfl cl_X12_258 rfl rfl (v_ran m n 13 (by omega) h.1) ?_
  refine j_aload0 43 dX12_tellsBy_42 rfl ?_
  refine j_aload0 44 dX12_tellsBy_43 rfl ?_
  refine j_aload0 45 dX12_tellsBy_44 rfl ?_
  refine j_getI 48 dX12_tellsBy_45 rfl fl_X12_261 rfl rfl ?_
  refine j_top (h.psh [13]).2.1 ?_
  refine j_iconst 49 (v := nI 0) dX12_tellsBy_48 rfl rfl ?_
  refine j_vi2f 52 dX12_tellsBy_49 rfl rfl cl_X12_146 rfl rfl (c_of _ hh 0 h8 (by decide)) ?_
  refine j_top (h.psh [13]).2.2.1 ?_
  refine j_iload2 53 dX12_tellsBy_52 rfl ?_
  refine j_vi2f 56 dX12_tellsBy_53 rfl rfl cl_X12_267 rfl rfl (rs_3_3 _ (n + 1) hh x mk h8 (h.psh [13]) (by omega)) ?_
  refine j_istore3 57 dX12_tellsBy_56 rfl rfl rfl ?_
  refine j_iload3 58 dX12_tellsBy_57 rfl ?_
  refine j_aload0 59 dX12_tellsBy_58 rfl ?_
  refine j_aload0 60 dX12_tellsBy_59 rfl ?_
  refine j_aload0 61 dX12_tellsBy_60 rfl ?_
  refine j_getI 64 dX12_tellsBy_61 rfl fl_X12_261 rfl rfl ?_
  refine j_top (h.psh [13, 11, 10]).2.1 ?_
  refine j_iconst 65 (v := nI 0) dX12_tellsBy_64 rfl rfl ?_
  refine j_vi2f 68 dX12_tellsBy_65 rfl rfl cl_X12_146 rfl rfl (c_of _ hh 0 h8 (by decide)) ?_
  refine j_top (h.psh [13, 11, 10]).2.2.1 ?_
  refine j_iload2 69 dX12_tellsBy_68 rfl ?_
  refine j_vi2f 72 dX12_tellsBy_69 rfl rfl cl_X12_270 rfl rfl (rd_3 _ (n + 3) hh 3 x mk h8 (h.psh [13, 11, 10]) (by omega)) ?_
  refine j_ixor 73 dX12_tellsBy_72 rfl ?_
  refine j_iret dX12_tellsBy_73 rfl ?_
  exact ⟨rfl, rfl⟩
set_option maxRecDepth 100000 in
theorem rt_0_4 (m : Mem) (n hh : Nat) (x mk : Int32) (h8 : hh < 8) (h : RV m n hh 4 mk) (hn : n + 5 ≤ 40) : JM l g 8 mX12_tellsBy [rf g 68, .int (nI 0), .int x] m (RF (some (.int ((((x + (nI hh)) * 3) * 2) ^^^ (x - mk)))) (pM [13, 11, 20, 10, 12] n m)) := by
  refine JM_of (ls := [some (rf g 68), some (.int (nI 0)), some (.int x), none]) pn_X12 rfl rfl ?_
  refine j_iconst 1 (v := 0) dX12_tellsBy_0 rfl rfl ?_
  refine j_istore3 2 dX12_tellsBy_1 rfl rfl rfl ?_
  refine j_iload1 3 dX12_tellsBy_2 rfl ?_
  refine j_lookup 36 dX12_tellsBy_3 rfl rfl rfl ?_
  refine j_aload0 37 dX12_tellsBy_36 rfl ?_
  refine j_bipush 39 (v := 13) dX12_tellsBy_37 rfl rfl ?_
  refine j_vi1v 42 dX12_tellsBy_39 rfl rfl cl_X12_258 rfl rfl (v_ran m n 13 (by omega) h.1) ?_
  refine j_aload0 43 dX12_tellsBy_42 rfl ?_
  refine j_aload0 44 dX12_tellsBy_43 rfl ?_
  refine j_aload0 45 dX12_tellsBy_44 rfl ?_
  refine j_getI 48 dX12_tellsBy_45 rfl fl_X12_261 rfl rfl ?_
  refine j_top (h.psh [13]).2.1 ?_
  refine j_iconst 49 (v := nI 0) dX12_tellsBy_48 rfl rfl ?_
  refine j_vi2f 52 dX12_tellsBy_49 rfl rfl cl_X12_146 rfl rfl (c_of _ hh 0 h8 (by decide)) ?_
  refine j_top (h.psh [13]).2.2.1 ?_
  refine j_iload2 53 dX12_tellsBy_52 rfl ?_
  refine j_vi2f 56 dX12_tellsBy_53 rfl rfl cl_X12_267 rfl rfl (rs_4_4 _ (n + 1) hh x mk h8 (h.psh [13]) (by omega)) ?_
  refine j_istore3 57 dX12_tellsBy_56 rfl rfl rfl ?_
  refine j_iload3 58 dX12_tellsBy_57 rfl ?_
  refine j_aload0 59 dX12_tellsBy_58 rfl ?_
  refine j_aload0 60 dX12_tellsBy_59 rfl ?_
  refine j_aload0 61 dX12_tellsBy_60 rfl ?_
  refine j_getI 64 dX12_tellsBy_61 rfl fl_X12_261 rfl rfl ?_
  refine j_top (h.psh [13, 11, 20, 10]).2.1 ?_
  refine j_iconst 65 (v := nI 0) dX12_tellsBy_64 rfl rfl ?_
  refine j_vi2f 68 dX12_tellsBy_65 rfl rfl cl_X12_146 rfl rfl (c_of _ hh 0 h8 (by decide)) ?_
  refine j_top (h.psh [13, 11, 20, 10]).2.2.1 ?_
  refine j_iload2 69 dX12_tellsBy_68 rfl ?_
  refine j_vi2f 72 dX12_tellsBy_69 rfl rfl cl_X12_270 rfl rfl (rd_4 _ (n + 4) hh 4 x mk h8 (h.psh [13, 11, 20, 10]) (by omega)) ?_
  refine j_ixor 73 dX12_tellsBy_72 rfl ?_
  refine j_iret dX12_tellsBy_73 rfl ?_
  exact ⟨rfl, rfl⟩
set_option maxRecDepth 100000 in
theorem rt_0_5 (m : Mem) (n hh : Nat) (x mk : Int32) (h8 : hh < 8) (h : RV m n hh 5 mk) (hn : n + 7 ≤ 40) : JM l g 8 mX12_tellsBy [rf g 68, .int (nI 0), .int x] m (RF (some (.int (((((x + 1) + (nI hh)) * 2) - (1 - mk)) ^^^ (x - mk)))) (pM [13, 60, 30, 11, 10, 12, 12] n m)) := by
  refine JM_of (ls := [some (rf g 68), some (.int (nI 0)), some (.int x), none]) pn_X12 rfl rfl ?_
  refine j_iconst 1 (v := 0) dX12_tellsBy_0 rfl rfl ?_
  refine j_istore3 2 dX12_tellsBy_1 rfl rfl rfl ?_
  refine j_iload1 3 dX12_tellsBy_2 rfl ?_
  refine j_lookup 36 dX12_tellsBy_3 rfl rfl rfl ?_
  refine j_aload0 37 dX12_tellsBy_36 rfl ?_
  refine j_bipush 39 (v := 13) dX12_tellsBy_37 rfl rfl ?_
  refine j_vi1v 42 dX12_tellsBy_39 rfl rfl cl_X12_258 rfl rfl (v_ran m n 13 (by omega) h.1) ?_
  refine j_aload0 43 dX12_tellsBy_42 rfl ?_
  refine j_aload0 44 dX12_tellsBy_43 rfl ?_
  refine j_aload0 45 dX12_tellsBy_44 rfl ?_
  refine j_getI 48 dX12_tellsBy_45 rfl fl_X12_261 rfl rfl ?_
  refine j_top (h.psh [13]).2.1 ?_
  refine j_iconst 49 (v := nI 0) dX12_tellsBy_48 rfl rfl ?_
  refine j_vi2f 52 dX12_tellsBy_49 rfl rfl cl_X12_146 rfl rfl (c_of _ hh 0 h8 (by decide)) ?_
  refine j_top (h.psh [13]).2.2.1 ?_
  refine j_iload2 53 dX12_tellsBy_52 rfl ?_
  refine j_vi2f 56 dX12_tellsBy_53 rfl rfl cl_X12_267 rfl rfl (rs_5_5 _ (n + 1) hh x mk h8 (h.psh [13]) (by omega)) ?_
  refine j_istore3 57 dX12_tellsBy_56 rfl rfl rfl ?_
  refine j_iload3 58 dX12_tellsBy_57 rfl ?_
  refine j_aload0 59 dX12_tellsBy_58 rfl ?_
  refine j_aload0 60 dX12_tellsBy_59 rfl ?_
  refine j_aload0 61 dX12_tellsBy_60 rfl ?_
  refine j_getI 64 dX12_tellsBy_61 rfl fl_X12_261 rfl rfl ?_
  refine j_top (h.psh [13, 60, 30, 11, 10, 12]).2.1 ?_
  refine j_iconst 65 (v := nI 0) dX12_tellsBy_64 rfl rfl ?_
  refine j_vi2f 68 dX12_tellsBy_65 rfl rfl cl_X12_146 rfl rfl (c_of _ hh 0 h8 (by decide)) ?_
  refine j_top (h.psh [13, 60, 30, 11, 10, 12]).2.2.1 ?_
  refine j_iload2 69 dX12_tellsBy_68 rfl ?_
  refine j_vi2f 72 dX12_tellsBy_69 rfl rfl cl_X12_270 rfl rfl (rd_5 _ (n + 6) hh 5 x mk h8 (h.psh [13, 60, 30, 11, 10, 12]) (by omega)) ?_
  refine j_ixor 73 dX12_tellsBy_72 rfl ?_
  refine j_iret dX12_tellsBy_73 rfl ?_
  exact ⟨rfl, rfl⟩
set_option maxRecDepth 100000 in
theorem rt_0_6 (m : Mem) (n hh : Nat) (x mk : Int32) (h8 : hh < 8) (h : RV m n hh 6 mk) (hn : n + 6 ≤ 40) : JM l g 8 mX12_tellsBy [rf g 68, .int (nI 0), .int x] m (RF (some (.int (((x + (nI hh)) * 2) ^^^ ((-(x - mk)) ^^^ (nI hh))))) (pM [13, 11, 10, 70, 40, 12] n m)) := by
  refine JM_of (ls := [some (rf g 68), some (.int (nI 0)), some (.int x), none]) pn_X12 rfl rfl ?_
  refine j_iconst 1 (v := 0) dX12_tellsBy_0 rfl rfl ?_
  refine j_istore3 2 dX12_tellsBy_1 rfl rfl rfl ?_
  refine j_iload1 3 dX12_tellsBy_2 rfl ?_
  refine j_lookup 36 dX12_tellsBy_3 rfl rfl rfl ?_
  refine j_aload0 37 dX12_tellsBy_36 rfl ?_
  refine j_bipush 39 (v := 13) dX12_tellsBy_37 rfl rfl ?_
  refine j_vi1v 42 dX12_tellsBy_39 rfl rfl cl_X12_258 rfl rfl (v_ran m n 13 (by omega) h.1) ?_
  refine j_aload0 43 dX12_tellsBy_42 rfl ?_
  refine j_aload0 44 dX12_tellsBy_43 rfl ?_
  refine j_aload0 45 dX12_tellsBy_44 rfl ?_
  refine j_getI 48 dX12_tellsBy_45 rfl fl_X12_261 rfl rfl ?_
  refine j_top (h.psh [13]).2.1 ?_
  refine j_iconst 49 (v := nI 0) dX12_tellsBy_48 rfl rfl ?_
  refine j_vi2f 52 dX12_tellsBy_49 rfl rfl cl_X12_146 rfl rfl (c_of _ hh 0 h8 (by decide)) ?_
  refine j_top (h.psh [13]).2.2.1 ?_
  refine j_iload2 53 dX12_tellsBy_52 rfl ?_
  refine j_vi2f 56 dX12_tellsBy_53 rfl rfl cl_X12_267 rfl rfl (rs_6_6 _ (n + 1) hh x mk h8 (h.psh [13]) (by omega)) ?_
  refine j_istore3 57 dX12_tellsBy_56 rfl rfl rfl ?_
  refine j_iload3 58 dX12_tellsBy_57 rfl ?_
  refine j_aload0 59 dX12_tellsBy_58 rfl ?_
  refine j_aload0 60 dX12_tellsBy_59 rfl ?_
  refine j_aload0 61 dX12_tellsBy_60 rfl ?_
  refine j_getI 64 dX12_tellsBy_61 rfl fl_X12_261 rfl rfl ?_
  refine j_top (h.psh [13, 11, 10]).2.1 ?_
  refine j_iconst 65 (v := nI 0) dX12_tellsBy_64 rfl rfl ?_
  refine j_vi2f 68 dX12_tellsBy_65 rfl rfl cl_X12_146 rfl rfl (c_of _ hh 0 h8 (by decide)) ?_
  refine j_top (h.psh [13, 11, 10]).2.2.1 ?_
  refine j_iload2 69 dX12_tellsBy_68 rfl ?_
  refine j_vi2f 72 dX12_tellsBy_69 rfl rfl cl_X12_270 rfl rfl (rd_6 _ (n + 3) hh 6 x mk h8 (h.psh [13, 11, 10]) (by omega)) ?_
  refine j_ixor 73 dX12_tellsBy_72 rfl ?_
  refine j_iret dX12_tellsBy_73 rfl ?_
  exact ⟨rfl, rfl⟩
set_option maxRecDepth 100000 in
theorem rt_1_1 (m : Mem) (n hh : Nat) (x mk : Int32) (h8 : hh < 8) (h : RV m n hh 1 mk) (hn : n + 5 ≤ 40) : JM l g 9 mX12_tellsBy [rf g 68, .int (nI 1), .int x] m (RF (some (.int ((((x + (nI hh)) * 3) * 2) ^^^ (x - mk)))) (pM [13, 11, 20, 10, 12] n m)) := by
  refine JM_of (ls := [some (rf g 68), some (.int (nI 1)), some (.int x), none]) pn_X12 rfl rfl ?_
  refine j_iconst 1 (v := 0) dX12_tellsBy_0 rfl rfl ?_
  refine j_istore3 2 dX12_tellsBy_1 rfl rfl rfl ?_
  refine j_iload1 3 dX12_tellsBy_2 rfl ?_
  refine j_lookup 141 dX12_tellsBy_3 rfl rfl rfl ?_
  refine j_aload0 142 dX12_tellsBy_141 rfl ?_
  refine j_iload1 143 dX12_tellsBy_142 rfl ?_
  refine j_st1f 146 dX12_tellsBy_143 rfl rfl cl_X12_209 rfl (c_above _ (nI 1)) ?_
  refine j_top (z := nI 0) (by decide) ?_
  refine j_iload2 147 dX12_tellsBy_146 rfl ?_
  refine j_vi2f 150 dX12_tellsBy_147 rfl rfl cl_X12_273 rfl rfl (rt_0_1 m n hh x mk h8 h hn) ?_
  refine j_iret dX12_tellsBy_150 rfl ?_
  exact ⟨rfl, rfl⟩
set_option maxRecDepth 100000 in
theorem rt_2_2 (m : Mem) (n hh : Nat) (x mk : Int32) (h8 : hh < 8) (h : RV m n hh 2 mk) (hn : n + 6 ≤ 40) : JM l g 9 mX12_tellsBy [rf g 68, .int (nI 2), .int x] m (RF (some (.int ((((x + (nI hh)) * 2) - (1 - mk)) ^^^ (x - mk)))) (pM [13, 30, 11, 10, 12, 12] n m)) := by
  refine JM_of (ls := [some (rf g 68), some (.int (nI 2)), some (.int x), none]) pn_X12 rfl rfl ?_
  refine j_iconst 1 (v := 0) dX12_tellsBy_0 rfl rfl ?_
  refine j_istore3 2 dX12_tellsBy_1 rfl rfl rfl ?_
  refine j_iload1 3 dX12_tellsBy_2 rfl ?_
  refine j_lookup 141 dX12_tellsBy_3 rfl rfl rfl ?_
  refine j_aload0 142 dX12_tellsBy_141 rfl ?_
  refine j_iload1 143 dX12_tellsBy_142 rfl ?_
  refine j_st1f 146 dX12_tellsBy_143 rfl rfl cl_X12_209 rfl (c_above _ (nI 2)) ?_
  refine j_top (z := nI 0) (by decide) ?_
  refine j_iload2 147 dX12_tellsBy_146 rfl ?_
  refine j_vi2f 150 dX12_tellsBy_147 rfl rfl cl_X12_273 rfl rfl (rt_0_2 m n hh x mk h8 h hn) ?_
  refine j_iret dX12_tellsBy_150 rfl ?_
  exact ⟨rfl, rfl⟩
set_option maxRecDepth 100000 in
theorem rt_3_3 (m : Mem) (n hh : Nat) (x mk : Int32) (h8 : hh < 8) (h : RV m n hh 3 mk) (hn : n + 5 ≤ 40) : JM l g 9 mX12_tellsBy [rf g 68, .int (nI 3), .int x] m (RF (some (.int (((x + (nI hh)) * 2) ^^^ (-(x - mk))))) (pM [13, 11, 10, 40, 12] n m)) := by
  refine JM_of (ls := [some (rf g 68), some (.int (nI 3)), some (.int x), none]) pn_X12 rfl rfl ?_
  refine j_iconst 1 (v := 0) dX12_tellsBy_0 rfl rfl ?_
  refine j_istore3 2 dX12_tellsBy_1 rfl rfl rfl ?_
  refine j_iload1 3 dX12_tellsBy_2 rfl ?_
  refine j_lookup 141 dX12_tellsBy_3 rfl rfl rfl ?_
  refine j_aload0 142 dX12_tellsBy_141 rfl ?_
  refine j_iload1 143 dX12_tellsBy_142 rfl ?_
  refine j_st1f 146 dX12_tellsBy_143 rfl rfl cl_X12_209 rfl (c_above _ (nI 3)) ?_
  refine j_top (z := nI 0) (by decide) ?_
  refine j_iload2 147 dX12_tellsBy_146 rfl ?_
  refine j_vi2f 150 dX12_tellsBy_147 rfl rfl cl_X12_273 rfl rfl (rt_0_3 m n hh x mk h8 h hn) ?_
  refine j_iret dX12_tellsBy_150 rfl ?_
  exact ⟨rfl, rfl⟩
set_option maxRecDepth 100000 in
theorem rt_1_4 (m : Mem) (n hh : Nat) (x mk : Int32) (h8 : hh < 8) (h : RV m n hh 4 mk) (hn : n + 5 ≤ 40) : JM l g 9 mX12_tellsBy [rf g 68, .int (nI 1), .int x] m (RF (some (.int ((((x + (nI hh)) * 3) * 2) ^^^ (x - mk)))) (pM [13, 11, 20, 10, 12] n m)) := by
  refine JM_of (ls := [some (rf g 68), some (.int (nI 1)), some (.int x), none]) pn_X12 rfl rfl ?_
  refine j_iconst 1 (v := 0) dX12_tellsBy_0 rfl rfl ?_
  refine j_istore3 2 dX12_tellsBy_1 rfl rfl rfl ?_
  refine j_iload1 3 dX12_tellsBy_2 rfl ?_
  refine j_lookup 141 dX12_tellsBy_3 rfl rfl rfl ?_
  refine j_aload0 142 dX12_tellsBy_141 rfl ?_
  refine j_iload1 143 dX12_tellsBy_142 rfl ?_
  refine j_st1f 146 dX12_tellsBy_143 rfl rfl cl_X12_209 rfl (c_above _ (nI 1)) ?_
  refine j_top (z := nI 0) (by decide) ?_
  refine j_iload2 147 dX12_tellsBy_146 rfl ?_
  refine j_vi2f 150 dX12_tellsBy_147 rfl rfl cl_X12_273 rfl rfl (rt_0_4 m n hh x mk h8 h hn) ?_
  refine j_iret dX12_tellsBy_150 rfl ?_
  exact ⟨rfl, rfl⟩
set_option maxRecDepth 100000 in
theorem rt_2_5 (m : Mem) (n hh : Nat) (x mk : Int32) (h8 : hh < 8) (h : RV m n hh 5 mk) (hn : n + 7 ≤ 40) : JM l g 9 mX12_tellsBy [rf g 68, .int (nI 2), .int x] m (RF (some (.int (((((x + 1) + (nI hh)) * 2) - (1 - mk)) ^^^ (x - mk)))) (pM [13, 60, 30, 11, 10, 12, 12] n m)) := by
  refine JM_of (ls := [some (rf g 68), some (.int (nI 2)), some (.int x), none]) pn_X12 rfl rfl ?_
  refine j_iconst 1 (v := 0) dX12_tellsBy_0 rfl rfl ?_
  refine j_istore3 2 dX12_tellsBy_1 rfl rfl rfl ?_
  refine j_iload1 3 dX12_tellsBy_2 rfl ?_
  refine j_lookup 141 dX12_tellsBy_3 rfl rfl rfl ?_
  refine j_aload0 142 dX12_tellsBy_141 rfl ?_
  refine j_iload1 143 dX12_tellsBy_142 rfl ?_
  refine j_st1f 146 dX12_tellsBy_143 rfl rfl cl_X12_209 rfl (c_above _ (nI 2)) ?_
  refine j_top (z := nI 0) (by decide) ?_
  refine j_iload2 147 dX12_tellsBy_146 rfl ?_
  refine j_vi2f 150 dX12_tellsBy_147 rfl rfl cl_X12_273 rfl rfl (rt_0_5 m n hh x mk h8 h hn) ?_
  refine j_iret dX12_tellsBy_150 rfl ?_
  exact ⟨rfl, rfl⟩
set_option maxRecDepth 100000 in
theorem rt_3_6 (m : Mem) (n hh : Nat) (x mk : Int32) (h8 : hh < 8) (h : RV m n hh 6 mk) (hn : n + 6 ≤ 40) : JM l g 9 mX12_tellsBy [rf g 68, .int (nI 3), .int x] m (RF (some (.int (((x + (nI hh)) * 2) ^^^ ((-(x - mk)) ^^^ (nI hh))))) (pM [13, 11, 10, 70, 40, 12] n m)) := by
  refine JM_of (ls := [some (rf g 68), some (.int (nI 3)), some (.int x), none]) pn_X12 rfl rfl ?_
  refine j_iconst 1 (v := 0) dX12_tellsBy_0 rfl rfl ?_
  refine j_istore3 2 dX12_tellsBy_1 rfl rfl rfl ?_
  refine j_iload1 3 dX12_tellsBy_2 rfl ?_
  refine j_lookup 141 dX12_tellsBy_3 rfl rfl rfl ?_
  refine j_aload0 142 dX12_tellsBy_141 rfl ?_
  refine j_iload1 143 dX12_tellsBy_142 rfl ?_
  refine j_st1f 146 dX12_tellsBy_143 rfl rfl cl_X12_209 rfl (c_above _ (nI 3)) ?_
  refine j_top (z := nI 0) (by decide) ?_
  refine j_iload2 147 dX12_tellsBy_146 rfl ?_
  refine j_vi2f 150 dX12_tellsBy_147 rfl rfl cl_X12_273 rfl rfl (rt_0_6 m n hh x mk h8 h hn) ?_
  refine j_iret dX12_tellsBy_150 rfl ?_
  exact ⟨rfl, rfl⟩
set_option maxRecDepth 100000 in
theorem rt_5_5 (m : Mem) (n hh : Nat) (x mk : Int32) (h8 : hh < 8) (h : RV m n hh 5 mk) (hn : n + 7 ≤ 40) : JM l g 10 mX12_tellsBy [rf g 68, .int (nI 5), .int x] m (RF (some (.int (((((x + 1) + (nI hh)) * 2) - (1 - mk)) ^^^ (x - mk)))) (pM [13, 60, 30, 11, 10, 12, 12] n m)) := by
  refine JM_of (ls := [some (rf g 68), some (.int (nI 5)), some (.int x), none]) pn_X12 rfl rfl ?_
  refine j_iconst 1 (v := 0) dX12_tellsBy_0 rfl rfl ?_
  refine j_istore3 2 dX12_tellsBy_1 rfl rfl rfl ?_
  refine j_iload1 3 dX12_tellsBy_2 rfl ?_
  refine j_lookup 141 dX12_tellsBy_3 rfl rfl rfl ?_
  refine j_aload0 142 dX12_tellsBy_141 rfl ?_
  refine j_iload1 143 dX12_tellsBy_142 rfl ?_
  refine j_st1f 146 dX12_tellsBy_143 rfl rfl cl_X12_209 rfl (c_above _ (nI 5)) ?_
  refine j_top (z := nI 2) (by decide) ?_
  refine j_iload2 147 dX12_tellsBy_146 rfl ?_
  refine j_vi2f 150 dX12_tellsBy_147 rfl rfl cl_X12_273 rfl rfl (rt_2_5 m n hh x mk h8 h hn) ?_
  refine j_iret dX12_tellsBy_150 rfl ?_
  exact ⟨rfl, rfl⟩
set_option maxRecDepth 100000 in
theorem rt_4_4 (m : Mem) (n hh : Nat) (x mk : Int32) (h8 : hh < 8) (h : RV m n hh 4 mk) (hn : n + 8 ≤ 40) : JM l g 10 mX12_tellsBy [rf g 68, .int (nI 4), .int x] m (RF (some (.int (((((x + (nI hh)) * 3) * 2) ^^^ (x - mk)) - ((2 + (nI hh)) * 3)))) (pM [50, 13, 11, 20, 10, 12, 20, 10] n m)) := by
  refine JM_of (ls := [some (rf g 68), some (.int (nI 4)), some (.int x), none]) pn_X12 rfl rfl ?_
  refine j_iconst 1 (v := 0) dX12_tellsBy_0 rfl rfl ?_
  refine j_istore3 2 dX12_tellsBy_1 rfl rfl rfl ?_
  refine j_iload1 3 dX12_tellsBy_2 rfl ?_
  refine j_lookup 74 dX12_tellsBy_3 rfl rfl rfl ?_
  refine j_aload0 75 dX12_tellsBy_74 rfl ?_
  refine j_bipush 77 (v := 50) dX12_tellsBy_75 rfl rfl ?_
  refine j_vi1v 80 dX12_tellsBy_77 rfl rfl cl_X12_258 rfl rfl (v_ran m n 50 (by omega) h.1) ?_
  refine j_aload0 81 dX12_tellsBy_80 rfl ?_
  refine j_iconst 82 (v := nI 4) dX12_tellsBy_81 rfl rfl ?_
  refine j_st1f 85 dX12_tellsBy_82 rfl rfl cl_X12_209 rfl (c_above _ (nI 4)) ?_
  refine j_top (z := nI 1) (by decide) ?_
  refine j_iload2 86 dX12_tellsBy_85 rfl ?_
  refine j_vi2f 89 dX12_tellsBy_86 rfl rfl cl_X12_273 rfl rfl (rt_1_4 _ (n + 1) hh x mk h8 (h.psh [50]) (by omega)) ?_
  refine j_istore3 90 dX12_tellsBy_89 rfl rfl rfl ?_
  refine j_iload3 91 dX12_tellsBy_90 rfl ?_
  refine j_aload0 92 dX12_tellsBy_91 rfl ?_
  refine j_aload0 93 dX12_tellsBy_92 rfl ?_
  refine j_aload0 94 dX12_tellsBy_93 rfl ?_
  refine j_getI 97 dX12_tellsBy_94 rfl fl_X12_261 rfl rfl ?_
  refine j_top (h.psh [50, 13, 11, 20, 10, 12]).2.1 ?_
  refine j_iconst 98 (v := nI 0) dX12_tellsBy_97 rfl rfl ?_
  refine j_vi2f 101 dX12_tellsBy_98 rfl rfl cl_X12_146 rfl rfl (c_of _ hh 0 h8 (by decide)) ?_
  refine j_top (h.psh [50, 13, 11, 20, 10, 12]).2.2.1 ?_
  refine j_iconst 102 (v := 2) dX12_tellsBy_101 rfl rfl ?_
  refine j_vi2f 105 dX12_tellsBy_102 rfl rfl cl_X12_264 rfl rfl (rl_4 _ (n + 6) hh 4 2 mk h8 (h.psh [50, 13, 11, 20, 10, 12]) (by omega)) ?_
  refine j_isub 106 dX12_tellsBy_105 rfl ?_
  refine j_iret dX12_tellsBy_106 rfl ?_
  exact ⟨rfl, rfl⟩
set_option maxRecDepth 100000 in
theorem rt_6_6 (m : Mem) (n hh : Nat) (x mk : Int32) (h8 : hh < 8) (h : RV m n hh 6 mk) (hn : n + 9 ≤ 40) : JM l g 10 mX12_tellsBy [rf g 68, .int (nI 6), .int x] m (RF (some (.int (((x + (nI hh)) * 2) - (((x + (nI hh)) * 2) ^^^ ((-(x - mk)) ^^^ (nI hh)))))) (pM [71, 11, 10, 13, 11, 10, 70, 40, 12] n m)) := by
  refine JM_of (ls := [some (rf g 68), some (.int (nI 6)), some (.int x), none]) pn_X12 rfl rfl ?_
  refine j_iconst 1 (v := 0) dX12_tellsBy_0 rfl rfl ?_
  refine j_istore3 2 dX12_tellsBy_1 rfl rfl rfl ?_
  refine j_iload1 3 dX12_tellsBy_2 rfl ?_
  refine j_lookup 107 dX12_tellsBy_3 rfl rfl rfl ?_
  refine j_aload0 108 dX12_tellsBy_107 rfl ?_
  refine j_bipush 110 (v := 71) dX12_tellsBy_108 rfl rfl ?_
  refine j_vi1v 113 dX12_tellsBy_110 rfl rfl cl_X12_258 rfl rfl (v_ran m n 71 (by omega) h.1) ?_
  refine j_aload0 114 dX12_tellsBy_113 rfl ?_
  refine j_aload0 115 dX12_tellsBy_114 rfl ?_
  refine j_aload0 116 dX12_tellsBy_115 rfl ?_
  refine j_getI 119 dX12_tellsBy_116 rfl fl_X12_261 rfl rfl ?_
  refine j_top (h.psh [71]).2.1 ?_
  refine j_iconst 120 (v := nI 0) dX12_tellsBy_119 rfl rfl ?_
  refine j_vi2f 123 dX12_tellsBy_120 rfl rfl cl_X12_146 rfl rfl (c_of _ hh 0 h8 (by decide)) ?_
  refine j_top (h.psh [71]).2.2.1 ?_
  refine j_iload2 124 dX12_tellsBy_123 rfl ?_
  refine j_vi2f 127 dX12_tellsBy_124 rfl rfl cl_X12_267 rfl rfl (rs_6_6 _ (n + 1) hh x mk h8 (h.psh [71]) (by omega)) ?_
  refine j_istore3 128 dX12_tellsBy_127 rfl rfl rfl ?_
  refine j_iload3 129 dX12_tellsBy_128 rfl ?_
  refine j_aload0 130 dX12_tellsBy_129 rfl ?_
  refine j_bipush 132 (v := nI 6) dX12_tellsBy_130 rfl rfl ?_
  refine j_st1f 135 dX12_tellsBy_132 rfl rfl cl_X12_209 rfl (c_above _ (nI 6)) ?_
  refine j_top (z := nI 3) (by decide) ?_
  refine j_iload2 136 dX12_tellsBy_135 rfl ?_
  refine j_vi2f 139 dX12_tellsBy_136 rfl rfl cl_X12_273 rfl rfl (rt_3_6 _ (n + 3) hh x mk h8 (h.psh [71, 11, 10]) (by omega)) ?_
  refine j_isub 140 dX12_tellsBy_139 rfl ?_
  refine j_iret dX12_tellsBy_140 rfl ?_
  exact ⟨rfl, rfl⟩
set_option maxRecDepth 100000 in
theorem c_open (m : Mem) (a b : Int32) : JM l g 0 mX9_open [rf g 58, .int a, .int b] m (RF none (up2 (up2 (up2 m 58 2 a) 58 3 b) 58 1 0)) := by
  refine JM_of (ls := [some (rf g 58), some (.int a), some (.int b)]) pn_X9 rfl rfl ?_
  refine j_aload0 1 dX9_open_0 rfl ?_
  refine j_iload1 2 dX9_open_1 rfl ?_
  refine j_putI 5 dX9_open_2 rfl fp_X9_15 rfl rfl ?_
  refine j_aload0 6 dX9_open_5 rfl ?_
  refine j_iload2 7 dX9_open_6 rfl ?_
  refine j_putI 10 dX9_open_7 rfl fp_X9_19 rfl rfl ?_
  refine j_aload0 11 dX9_open_10 rfl ?_
  refine j_iconst 12 (v := 0) dX9_open_11 rfl rfl ?_
  refine j_putI 15 dX9_open_12 rfl fp_X9_22 rfl rfl ?_
  refine j_vret dX9_open_15 rfl ?_
  exact ⟨rfl, rfl⟩
abbrev opC (m : Mem) (a b : Int32) : Mem := up2 (up2 (up2 m 58 2 a) 58 3 b) 58 1 0
abbrev opM (m : Mem) (a : Int32) : Mem := up2 (up2 m 68 17 a) 68 16 0
theorem VS_op {m : Mem} {a b : Int32} : VS (opC m a b) 0 a b := ⟨up2_s, (up2_k (by decide)).trans ((up2_k (by decide)).trans up2_s), (up2_k (by decide)).trans up2_s⟩
theorem RV_op {m : Mem} {h k : Nat} {mk : Int32} (e0 : hf (m 69) h 0 = nI k) (e1 : hf (m 69) h 1 = mk) : RV (opM m (nI h)) 0 h k mk := by
  have e : opM m (nI h) 69 = m 69 := (up2_r (by decide)).trans (up2_r (by decide))
  exact ⟨up2_s, (up2_k (by decide)).trans up2_s, by rw [e]; exact e0, by rw [e]; exact e1⟩
set_option maxRecDepth 100000 in
theorem e_voice (m : Mem) (a b x : Int32) (c : ¬ ((0 ≤ a ∧ a < m 9 9 ∧ a < 8) ∧ (0 ≤ b ∧ b ≤ 3))) : JM l g 2 mX11_voice [rf g 0, .int a, .int b, .int x] m (RF (some (.int (-1000000001))) (errC 1 m)) := by
  refine JM_of (ls := [some (rf g 0), some (.int a), some (.int b), some (.int x), none]) pn_X11 rfl rfl ?_
  refine j_aload0 1 dX11_voice_0 rfl ?_
  refine j_iload1 2 dX11_voice_1 rfl ?_
  refine j_vi1f 5 dX11_voice_2 rfl rfl cl_X11_124 rfl rfl (c_isHeir m a) ?_
  refine j_if_eq_bz 17 8 dX11_voice_5 rfl rfl (fun h5 => ?_) (fun h5 => ?_)
  · refine j_aload0 18 dX11_voice_17 rfl ?_
    refine j_ldc 20 dX11_voice_18 rfl kc_X11_81 ?_
    refine j_vi1f 23 dX11_voice_20 rfl rfl cl_X11_82 rfl rfl (c_err1 m) ?_
    refine j_iret dX11_voice_23 rfl ?_
    exact ⟨rfl, rfl⟩
  · refine j_iload2 9 dX11_voice_8 rfl ?_
    refine j_iconst 10 (v := 0) dX11_voice_9 rfl rfl ?_
    refine j_iconst 11 (v := 3) dX11_voice_10 rfl rfl ?_
    refine j_st3f 14 dX11_voice_11 rfl rfl cl_X11_86 rfl (c_within m b 0 3) ?_
    refine j_if_ne_bz 24 17 dX11_voice_14 rfl rfl (fun h14 => ?_) (fun h14 => ?_)
    · exact absurd (And.intro h5 h14) c
    · refine j_aload0 18 dX11_voice_17 rfl ?_
      refine j_ldc 20 dX11_voice_18 rfl kc_X11_81 ?_
      refine j_vi1f 23 dX11_voice_20 rfl rfl cl_X11_82 rfl rfl (c_err1 m) ?_
      refine j_iret dX11_voice_23 rfl ?_
      exact ⟨rfl, rfl⟩
set_option maxRecDepth 100000 in
theorem f_voice (m : Mem) (a b x : Int32) (c : ¬ ((0 ≤ a ∧ a ≤ m 69 0 - 1) ∧ (0 ≤ b ∧ b ≤ 3))) : JM l g 2 mX12_voice [rf g 68, .int a, .int b, .int x] m (RF (some (.int (-1000000001))) (errM 1 m)) := by
  refine JM_of (ls := [some (rf g 68), some (.int a), some (.int b), some (.int x), none]) pn_X12 rfl rfl ?_
  refine j_aload0 1 dX12_voice_0 rfl ?_
  refine j_iload1 2 dX12_voice_1 rfl ?_
  refine j_vi1f 5 dX12_voice_2 rfl rfl cl_X12_199 rfl rfl (c_misHeir m a) ?_
  refine j_if_eq_bz 20 8 dX12_voice_5 rfl rfl (fun h5 => ?_) (fun h5 => ?_)
  · refine j_aload0 21 dX12_voice_20 rfl ?_
    refine j_iconst 22 (v := 1) dX12_voice_21 rfl rfl ?_
    refine j_vi1f 25 dX12_voice_22 rfl rfl cl_X12_126 rfl rfl (c_finds1 m) ?_
    refine j_iret dX12_voice_25 rfl ?_
    exact ⟨rfl, rfl⟩
  · refine j_iload2 9 dX12_voice_8 rfl ?_
    refine j_i2l 10 dX12_voice_9 rfl ?_
    refine j_lconst 11 (v := 0) dX12_voice_10 rfl rfl ?_
    refine j_ldc2 14 dX12_voice_11 rfl kl_X12_182 ?_
    refine j_st3f 17 dX12_voice_14 rfl rfl cl_X12_47 rfl (c_in m b 0 3) ?_
    refine j_if_ne_bz 26 20 dX12_voice_17 rfl rfl (fun h17 => ?_) (fun h17 => ?_)
    · exact absurd (And.intro h5 h17) c
    · refine j_aload0 21 dX12_voice_20 rfl ?_
      refine j_iconst 22 (v := 1) dX12_voice_21 rfl rfl ?_
      refine j_vi1f 25 dX12_voice_22 rfl rfl cl_X12_126 rfl rfl (c_finds1 m) ?_
      refine j_iret dX12_voice_25 rfl ?_
      exact ⟨rfl, rfl⟩
set_option maxRecDepth 100000 in
theorem o_voice_0_0 (m : Mem) (hh : Nat) (x : Int32) (h8 : hh < 8) (ek : m 12 hh = nI 0) (h1 : 0 ≤ nI hh ∧ nI hh < m 9 9 ∧ nI hh < 8) : JM l g 10 mX11_voice [rf g 0, .int (nI hh), .int (nI 0), .int x] m (RF (some (.int (x + (nI hh)))) (pC [10] 0 (opC m (nI hh) (m 13 hh)))) := by
  refine JM_of (ls := [some (rf g 0), some (.int (nI hh)), some (.int (nI 0)), some (.int x), none]) pn_X11 rfl rfl ?_
  refine j_aload0 1 dX11_voice_0 rfl ?_
  refine j_iload1 2 dX11_voice_1 rfl ?_
  refine j_vi1f 5 dX11_voice_2 rfl rfl cl_X11_124 rfl rfl (c_isHeir m _) ?_
  refine j_if_eq_bz 17 8 dX11_voice_5 rfl rfl (fun h5 => absurd h1 h5) (fun h5 => ?_)
  refine j_iload2 9 dX11_voice_8 rfl ?_
  refine j_iconst 10 (v := 0) dX11_voice_9 rfl rfl ?_
  refine j_iconst 11 (v := 3) dX11_voice_10 rfl rfl ?_
  refine j_st3f 14 dX11_voice_11 rfl rfl cl_X11_86 rfl (c_within m _ 0 3) ?_
  refine j_if_ne_bz 24 17 dX11_voice_14 rfl rfl (fun h14 => ?_) (fun h14 => absurd (by decide) h14)
  refine j_aload0 25 dX11_voice_24 rfl ?_
  refine j_getR 28 dX11_voice_25 rfl fl_X11_35 rfl rfl ?_
  refine j_iload1 29 dX11_voice_28 rfl ?_
  refine j_vi1f 32 dX11_voice_29 rfl rfl cl_X11_253 rfl rfl (c_kindOf_9 m hh 0 h8 (by decide) ek) ?_
  refine j_astore4 34 dX11_voice_32 rfl rfl rfl ?_
  refine j_aload0 35 dX11_voice_34 rfl ?_
  refine j_getR 38 dX11_voice_35 rfl fl_X11_58 rfl rfl ?_
  refine j_iload1 39 dX11_voice_38 rfl ?_
  refine j_aload0 40 dX11_voice_39 rfl ?_
  refine j_getR 43 dX11_voice_40 rfl fl_X11_35 rfl rfl ?_
  refine j_getR 46 dX11_voice_43 rfl fl_X11_130 rfl rfl ?_
  refine j_iload1 47 dX11_voice_46 rfl ?_
  refine j_iald 48 _ rfl h8 dX11_voice_47 rfl rfl ?_
  refine j_vi2v 51 dX11_voice_48 rfl rfl cl_X11_257 rfl rfl (c_open m (nI hh) (m 13 hh)) ?_
  refine j_iload2 52 dX11_voice_51 rfl ?_
  refine j_tabIn 80 dX11_voice_52 (by decide) (by decide) rfl rfl ?_
  refine j_aload4 82 dX11_voice_80 rfl ?_
  refine j_aload0 83 dX11_voice_82 rfl ?_
  refine j_getR 86 dX11_voice_83 rfl fl_X11_58 rfl rfl ?_
  refine j_iload3 87 dX11_voice_86 rfl ?_
  refine j_dy2f 90 dX11_voice_87 rfl rfl cu_X11_260_X5 rfl rfl (vl0_2 _ 0 x (nI hh) (m 13 hh) VS_op (by decide)) ?_
  refine j_iret dX11_voice_90 rfl ?_
  exact ⟨rfl, rfl⟩
set_option maxRecDepth 100000 in
theorem p_voice_0_0 (m : Mem) (hh : Nat) (x mk : Int32) (h8 : hh < 8) (e0 : hf (m 69) hh 0 = nI 0) (e1 : hf (m 69) hh 1 = mk) (h1 : 0 ≤ nI hh ∧ nI hh ≤ m 69 0 - 1) : JM l g 11 mX12_voice [rf g 68, .int (nI hh), .int (nI 0), .int x] m (RF (some (.int (x + (nI hh)))) (pM [10] 0 (opM m (nI hh)))) := by
  refine JM_of (ls := [some (rf g 68), some (.int (nI hh)), some (.int (nI 0)), some (.int x), none]) pn_X12 rfl rfl ?_
  refine j_aload0 1 dX12_voice_0 rfl ?_
  refine j_iload1 2 dX12_voice_1 rfl ?_
  refine j_vi1f 5 dX12_voice_2 rfl rfl cl_X12_199 rfl rfl (c_misHeir m _) ?_
  refine j_if_eq_bz 20 8 dX12_voice_5 rfl rfl (fun h5 => absurd h1 h5) (fun h5 => ?_)
  refine j_iload2 9 dX12_voice_8 rfl ?_
  refine j_i2l 10 dX12_voice_9 rfl ?_
  refine j_lconst 11 (v := 0) dX12_voice_10 rfl rfl ?_
  refine j_ldc2 14 dX12_voice_11 rfl kl_X12_182 ?_
  refine j_st3f 17 dX12_voice_14 rfl rfl cl_X12_47 rfl (c_in m _ 0 3) ?_
  refine j_if_ne_bz 26 20 dX12_voice_17 rfl rfl (fun h17 => ?_) (fun h17 => absurd (by decide) h17)
  refine j_aload0 27 dX12_voice_26 rfl ?_
  refine j_iload1 28 dX12_voice_27 rfl ?_
  refine j_putI 31 dX12_voice_28 rfl fp_X12_261 rfl rfl ?_
  refine j_aload0 32 dX12_voice_31 rfl ?_
  refine j_iconst 33 (v := 0) dX12_voice_32 rfl rfl ?_
  refine j_putI 36 dX12_voice_33 rfl fp_X12_255 rfl rfl ?_
  refine j_aload0 37 dX12_voice_36 rfl ?_
  refine j_aload0 38 dX12_voice_37 rfl ?_
  refine j_getI 41 dX12_voice_38 rfl fl_X12_261 rfl rfl ?_
  refine j_top (RV_op e0 e1).2.1 ?_
  refine j_iconst 42 (v := nI 0) dX12_voice_41 rfl rfl ?_
  refine j_vi2f 45 dX12_voice_42 rfl rfl cl_X12_146 rfl rfl (c_of _ hh 0 h8 (by decide)) ?_
  refine j_top (RV_op e0 e1).2.2.1 ?_
  refine j_istore4 47 dX12_voice_45 rfl rfl rfl ?_
  refine j_iload2 48 dX12_voice_47 rfl ?_
  refine j_if_ne 61 51 dX12_voice_48 rfl rfl (fun h48 => absurd h48 (by decide)) (fun h48 => ?_)
  refine j_aload0 52 dX12_voice_51 rfl ?_
  refine j_iload4 54 dX12_voice_52 rfl ?_
  refine j_iload3 55 dX12_voice_54 rfl ?_
  refine j_vi2f 58 dX12_voice_55 rfl rfl cl_X12_264 rfl rfl (rl_0 _ 0 hh 0 x mk h8 (RV_op e0 e1) (by decide)) ?_
  refine j_goto 98 dX12_voice_58 rfl ?_
  refine j_iret dX12_voice_98 rfl ?_
  exact ⟨rfl, rfl⟩
set_option maxRecDepth 100000 in
theorem o_voice_0_1 (m : Mem) (hh : Nat) (x : Int32) (h8 : hh < 8) (ek : m 12 hh = nI 0) (h1 : 0 ≤ nI hh ∧ nI hh < m 9 9 ∧ nI hh < 8) : JM l g 10 mX11_voice [rf g 0, .int (nI hh), .int (nI 1), .int x] m (RF (some (.int ((x + (nI hh)) * 2))) (pC [11, 10] 0 (opC m (nI hh) (m 13 hh)))) := by
  refine JM_of (ls := [some (rf g 0), some (.int (nI hh)), some (.int (nI 1)), some (.int x), none]) pn_X11 rfl rfl ?_
  refine j_aload0 1 dX11_voice_0 rfl ?_
  refine j_iload1 2 dX11_voice_1 rfl ?_
  refine j_vi1f 5 dX11_voice_2 rfl rfl cl_X11_124 rfl rfl (c_isHeir m _) ?_
  refine j_if_eq_bz 17 8 dX11_voice_5 rfl rfl (fun h5 => absurd h1 h5) (fun h5 => ?_)
  refine j_iload2 9 dX11_voice_8 rfl ?_
  refine j_iconst 10 (v := 0) dX11_voice_9 rfl rfl ?_
  refine j_iconst 11 (v := 3) dX11_voice_10 rfl rfl ?_
  refine j_st3f 14 dX11_voice_11 rfl rfl cl_X11_86 rfl (c_within m _ 0 3) ?_
  refine j_if_ne_bz 24 17 dX11_voice_14 rfl rfl (fun h14 => ?_) (fun h14 => absurd (by decide) h14)
  refine j_aload0 25 dX11_voice_24 rfl ?_
  refine j_getR 28 dX11_voice_25 rfl fl_X11_35 rfl rfl ?_
  refine j_iload1 29 dX11_voice_28 rfl ?_
  refine j_vi1f 32 dX11_voice_29 rfl rfl cl_X11_253 rfl rfl (c_kindOf_9 m hh 0 h8 (by decide) ek) ?_
  refine j_astore4 34 dX11_voice_32 rfl rfl rfl ?_
  refine j_aload0 35 dX11_voice_34 rfl ?_
  refine j_getR 38 dX11_voice_35 rfl fl_X11_58 rfl rfl ?_
  refine j_iload1 39 dX11_voice_38 rfl ?_
  refine j_aload0 40 dX11_voice_39 rfl ?_
  refine j_getR 43 dX11_voice_40 rfl fl_X11_35 rfl rfl ?_
  refine j_getR 46 dX11_voice_43 rfl fl_X11_130 rfl rfl ?_
  refine j_iload1 47 dX11_voice_46 rfl ?_
  refine j_iald 48 _ rfl h8 dX11_voice_47 rfl rfl ?_
  refine j_vi2v 51 dX11_voice_48 rfl rfl cl_X11_257 rfl rfl (c_open m (nI hh) (m 13 hh)) ?_
  refine j_iload2 52 dX11_voice_51 rfl ?_
  refine j_tabIn 91 dX11_voice_52 (by decide) (by decide) rfl rfl ?_
  refine j_aload4 93 dX11_voice_91 rfl ?_
  refine j_aload0 94 dX11_voice_93 rfl ?_
  refine j_getR 97 dX11_voice_94 rfl fl_X11_58 rfl rfl ?_
  refine j_iload3 98 dX11_voice_97 rfl ?_
  refine j_dy2f 101 dX11_voice_98 rfl rfl cu_X11_264_X5 rfl rfl (vs0_2 _ 0 x (nI hh) (m 13 hh) VS_op (by decide)) ?_
  refine j_iret dX11_voice_101 rfl ?_
  exact ⟨rfl, rfl⟩
set_option maxRecDepth 100000 in
theorem p_voice_0_1 (m : Mem) (hh : Nat) (x mk : Int32) (h8 : hh < 8) (e0 : hf (m 69) hh 0 = nI 0) (e1 : hf (m 69) hh 1 = mk) (h1 : 0 ≤ nI hh ∧ nI hh ≤ m 69 0 - 1) : JM l g 11 mX12_voice [rf g 68, .int (nI hh), .int (nI 1), .int x] m (RF (some (.int ((x + (nI hh)) * 2))) (pM [11, 10] 0 (opM m (nI hh)))) := by
  refine JM_of (ls := [some (rf g 68), some (.int (nI hh)), some (.int (nI 1)), some (.int x), none]) pn_X12 rfl rfl ?_
  refine j_aload0 1 dX12_voice_0 rfl ?_
  refine j_iload1 2 dX12_voice_1 rfl ?_
  refine j_vi1f 5 dX12_voice_2 rfl rfl cl_X12_199 rfl rfl (c_misHeir m _) ?_
  refine j_if_eq_bz 20 8 dX12_voice_5 rfl rfl (fun h5 => absurd h1 h5) (fun h5 => ?_)
  refine j_iload2 9 dX12_voice_8 rfl ?_
  refine j_i2l 10 dX12_voice_9 rfl ?_
  refine j_lconst 11 (v := 0) dX12_voice_10 rfl rfl ?_
  refine j_ldc2 14 dX12_voice_11 rfl kl_X12_182 ?_
  refine j_st3f 17 dX12_voice_14 rfl rfl cl_X12_47 rfl (c_in m _ 0 3) ?_
  refine j_if_ne_bz 26 20 dX12_voice_17 rfl rfl (fun h17 => ?_) (fun h17 => absurd (by decide) h17)
  refine j_aload0 27 dX12_voice_26 rfl ?_
  refine j_iload1 28 dX12_voice_27 rfl ?_
  refine j_putI 31 dX12_voice_28 rfl fp_X12_261 rfl rfl ?_
  refine j_aload0 32 dX12_voice_31 rfl ?_
  refine j_iconst 33 (v := 0) dX12_voice_32 rfl rfl ?_
  refine j_putI 36 dX12_voice_33 rfl fp_X12_255 rfl rfl ?_
  refine j_aload0 37 dX12_voice_36 rfl ?_
  refine j_aload0 38 dX12_voice_37 rfl ?_
  refine j_getI 41 dX12_voice_38 rfl fl_X12_261 rfl rfl ?_
  refine j_top (RV_op e0 e1).2.1 ?_
  refine j_iconst 42 (v := nI 0) dX12_voice_41 rfl rfl ?_
  refine j_vi2f 45 dX12_voice_42 rfl rfl cl_X12_146 rfl rfl (c_of _ hh 0 h8 (by decide)) ?_
  refine j_top (RV_op e0 e1).2.2.1 ?_
  refine j_istore4 47 dX12_voice_45 rfl rfl rfl ?_
  refine j_iload2 48 dX12_voice_47 rfl ?_
  refine j_if_ne 61 51 dX12_voice_48 rfl rfl (fun h48 => ?_) (fun h48 => absurd h48 (by decide))
  refine j_iload2 62 dX12_voice_61 rfl ?_
  refine j_iconst 63 (v := 1) dX12_voice_62 rfl rfl ?_
  refine j_cmp_ne 76 66 dX12_voice_63 rfl rfl (fun h63 => absurd h63 (by decide)) (fun h63 => ?_)
  refine j_aload0 67 dX12_voice_66 rfl ?_
  refine j_iload4 69 dX12_voice_67 rfl ?_
  refine j_iload3 70 dX12_voice_69 rfl ?_
  refine j_vi2f 73 dX12_voice_70 rfl rfl cl_X12_267 rfl rfl (rs_0_0 _ 0 hh x mk h8 (RV_op e0 e1) (by decide)) ?_
  refine j_goto 98 dX12_voice_73 rfl ?_
  refine j_iret dX12_voice_98 rfl ?_
  exact ⟨rfl, rfl⟩
set_option maxRecDepth 100000 in
theorem o_voice_0_2 (m : Mem) (hh : Nat) (x : Int32) (h8 : hh < 8) (ek : m 12 hh = nI 0) (h1 : 0 ≤ nI hh ∧ nI hh < m 9 9 ∧ nI hh < 8) : JM l g 10 mX11_voice [rf g 0, .int (nI hh), .int (nI 2), .int x] m (RF (some (.int (x - (m 13 hh)))) (pC [12] 0 (opC m (nI hh) (m 13 hh)))) := by
  refine JM_of (ls := [some (rf g 0), some (.int (nI hh)), some (.int (nI 2)), some (.int x), none]) pn_X11 rfl rfl ?_
  refine j_aload0 1 dX11_voice_0 rfl ?_
  refine j_iload1 2 dX11_voice_1 rfl ?_
  refine j_vi1f 5 dX11_voice_2 rfl rfl cl_X11_124 rfl rfl (c_isHeir m _) ?_
  refine j_if_eq_bz 17 8 dX11_voice_5 rfl rfl (fun h5 => absurd h1 h5) (fun h5 => ?_)
  refine j_iload2 9 dX11_voice_8 rfl ?_
  refine j_iconst 10 (v := 0) dX11_voice_9 rfl rfl ?_
  refine j_iconst 11 (v := 3) dX11_voice_10 rfl rfl ?_
  refine j_st3f 14 dX11_voice_11 rfl rfl cl_X11_86 rfl (c_within m _ 0 3) ?_
  refine j_if_ne_bz 24 17 dX11_voice_14 rfl rfl (fun h14 => ?_) (fun h14 => absurd (by decide) h14)
  refine j_aload0 25 dX11_voice_24 rfl ?_
  refine j_getR 28 dX11_voice_25 rfl fl_X11_35 rfl rfl ?_
  refine j_iload1 29 dX11_voice_28 rfl ?_
  refine j_vi1f 32 dX11_voice_29 rfl rfl cl_X11_253 rfl rfl (c_kindOf_9 m hh 0 h8 (by decide) ek) ?_
  refine j_astore4 34 dX11_voice_32 rfl rfl rfl ?_
  refine j_aload0 35 dX11_voice_34 rfl ?_
  refine j_getR 38 dX11_voice_35 rfl fl_X11_58 rfl rfl ?_
  refine j_iload1 39 dX11_voice_38 rfl ?_
  refine j_aload0 40 dX11_voice_39 rfl ?_
  refine j_getR 43 dX11_voice_40 rfl fl_X11_35 rfl rfl ?_
  refine j_getR 46 dX11_voice_43 rfl fl_X11_130 rfl rfl ?_
  refine j_iload1 47 dX11_voice_46 rfl ?_
  refine j_iald 48 _ rfl h8 dX11_voice_47 rfl rfl ?_
  refine j_vi2v 51 dX11_voice_48 rfl rfl cl_X11_257 rfl rfl (c_open m (nI hh) (m 13 hh)) ?_
  refine j_iload2 52 dX11_voice_51 rfl ?_
  refine j_tabIn 102 dX11_voice_52 (by decide) (by decide) rfl rfl ?_
  refine j_aload4 104 dX11_voice_102 rfl ?_
  refine j_aload0 105 dX11_voice_104 rfl ?_
  refine j_getR 108 dX11_voice_105 rfl fl_X11_58 rfl rfl ?_
  refine j_iload3 109 dX11_voice_108 rfl ?_
  refine j_dy2f 112 dX11_voice_109 rfl rfl cu_X11_267_X5 rfl rfl (vd0_2 _ 0 x (nI hh) (m 13 hh) VS_op (by decide)) ?_
  refine j_iret dX11_voice_112 rfl ?_
  exact ⟨rfl, rfl⟩
set_option maxRecDepth 100000 in
theorem p_voice_0_2 (m : Mem) (hh : Nat) (x mk : Int32) (h8 : hh < 8) (e0 : hf (m 69) hh 0 = nI 0) (e1 : hf (m 69) hh 1 = mk) (h1 : 0 ≤ nI hh ∧ nI hh ≤ m 69 0 - 1) : JM l g 11 mX12_voice [rf g 68, .int (nI hh), .int (nI 2), .int x] m (RF (some (.int (x - mk))) (pM [12] 0 (opM m (nI hh)))) := by
  refine JM_of (ls := [some (rf g 68), some (.int (nI hh)), some (.int (nI 2)), some (.int x), none]) pn_X12 rfl rfl ?_
  refine j_aload0 1 dX12_voice_0 rfl ?_
  refine j_iload1 2 dX12_voice_1 rfl ?_
  refine j_vi1f 5 dX12_voice_2 rfl rfl cl_X12_199 rfl rfl (c_misHeir m _) ?_
  refine j_if_eq_bz 20 8 dX12_voice_5 rfl rfl (fun h5 => absurd h1 h5) (fun h5 => ?_)
  refine j_iload2 9 dX12_voice_8 rfl ?_
  refine j_i2l 10 dX12_voice_9 rfl ?_
  refine j_lconst 11 (v := 0) dX12_voice_10 rfl rfl ?_
  refine j_ldc2 14 dX12_voice_11 rfl kl_X12_182 ?_
  refine j_st3f 17 dX12_voice_14 rfl rfl cl_X12_47 rfl (c_in m _ 0 3) ?_
  refine j_if_ne_bz 26 20 dX12_voice_17 rfl rfl (fun h17 => ?_) (fun h17 => absurd (by decide) h17)
  refine j_aload0 27 dX12_voice_26 rfl ?_
  refine j_iload1 28 dX12_voice_27 rfl ?_
  refine j_putI 31 dX12_voice_28 rfl fp_X12_261 rfl rfl ?_
  refine j_aload0 32 dX12_voice_31 rfl ?_
  refine j_iconst 33 (v := 0) dX12_voice_32 rfl rfl ?_
  refine j_putI 36 dX12_voice_33 rfl fp_X12_255 rfl rfl ?_
  refine j_aload0 37 dX12_voice_36 rfl ?_
  refine j_aload0 38 dX12_voice_37 rfl ?_
  refine j_getI 41 dX12_voice_38 rfl fl_X12_261 rfl rfl ?_
  refine j_top (RV_op e0 e1).2.1 ?_
  refine j_iconst 42 (v := nI 0) dX12_voice_41 rfl rfl ?_
  refine j_vi2f 45 dX12_voice_42 rfl rfl cl_X12_146 rfl rfl (c_of _ hh 0 h8 (by decide)) ?_
  refine j_top (RV_op e0 e1).2.2.1 ?_
  refine j_istore4 47 dX12_voice_45 rfl rfl rfl ?_
  refine j_iload2 48 dX12_voice_47 rfl ?_
  refine j_if_ne 61 51 dX12_voice_48 rfl rfl (fun h48 => ?_) (fun h48 => absurd h48 (by decide))
  refine j_iload2 62 dX12_voice_61 rfl ?_
  refine j_iconst 63 (v := 1) dX12_voice_62 rfl rfl ?_
  refine j_cmp_ne 76 66 dX12_voice_63 rfl rfl (fun h63 => ?_) (fun h63 => absurd h63 (by decide))
  refine j_iload2 77 dX12_voice_76 rfl ?_
  refine j_iconst 78 (v := 2) dX12_voice_77 rfl rfl ?_
  refine j_cmp_ne 91 81 dX12_voice_78 rfl rfl (fun h78 => absurd h78 (by decide)) (fun h78 => ?_)
  refine j_aload0 82 dX12_voice_81 rfl ?_
  refine j_iload4 84 dX12_voice_82 rfl ?_
  refine j_iload3 85 dX12_voice_84 rfl ?_
  refine j_vi2f 88 dX12_voice_85 rfl rfl cl_X12_270 rfl rfl (rd_0 _ 0 hh 0 x mk h8 (RV_op e0 e1) (by decide)) ?_
  refine j_goto 98 dX12_voice_88 rfl ?_
  refine j_iret dX12_voice_98 rfl ?_
  exact ⟨rfl, rfl⟩
set_option maxRecDepth 100000 in
theorem o_voice_0_3 (m : Mem) (hh : Nat) (x : Int32) (h8 : hh < 8) (ek : m 12 hh = nI 0) (h1 : 0 ≤ nI hh ∧ nI hh < m 9 9 ∧ nI hh < 8) : JM l g 10 mX11_voice [rf g 0, .int (nI hh), .int (nI 3), .int x] m (RF (some (.int (((x + (nI hh)) * 2) ^^^ (x - (m 13 hh))))) (pC [13, 11, 10, 12] 0 (opC m (nI hh) (m 13 hh)))) := by
  refine JM_of (ls := [some (rf g 0), some (.int (nI hh)), some (.int (nI 3)), some (.int x), none]) pn_X11 rfl rfl ?_
  refine j_aload0 1 dX11_voice_0 rfl ?_
  refine j_iload1 2 dX11_voice_1 rfl ?_
  refine j_vi1f 5 dX11_voice_2 rfl rfl cl_X11_124 rfl rfl (c_isHeir m _) ?_
  refine j_if_eq_bz 17 8 dX11_voice_5 rfl rfl (fun h5 => absurd h1 h5) (fun h5 => ?_)
  refine j_iload2 9 dX11_voice_8 rfl ?_
  refine j_iconst 10 (v := 0) dX11_voice_9 rfl rfl ?_
  refine j_iconst 11 (v := 3) dX11_voice_10 rfl rfl ?_
  refine j_st3f 14 dX11_voice_11 rfl rfl cl_X11_86 rfl (c_within m _ 0 3) ?_
  refine j_if_ne_bz 24 17 dX11_voice_14 rfl rfl (fun h14 => ?_) (fun h14 => absurd (by decide) h14)
  refine j_aload0 25 dX11_voice_24 rfl ?_
  refine j_getR 28 dX11_voice_25 rfl fl_X11_35 rfl rfl ?_
  refine j_iload1 29 dX11_voice_28 rfl ?_
  refine j_vi1f 32 dX11_voice_29 rfl rfl cl_X11_253 rfl rfl (c_kindOf_9 m hh 0 h8 (by decide) ek) ?_
  refine j_astore4 34 dX11_voice_32 rfl rfl rfl ?_
  refine j_aload0 35 dX11_voice_34 rfl ?_
  refine j_getR 38 dX11_voice_35 rfl fl_X11_58 rfl rfl ?_
  refine j_iload1 39 dX11_voice_38 rfl ?_
  refine j_aload0 40 dX11_voice_39 rfl ?_
  refine j_getR 43 dX11_voice_40 rfl fl_X11_35 rfl rfl ?_
  refine j_getR 46 dX11_voice_43 rfl fl_X11_130 rfl rfl ?_
  refine j_iload1 47 dX11_voice_46 rfl ?_
  refine j_iald 48 _ rfl h8 dX11_voice_47 rfl rfl ?_
  refine j_vi2v 51 dX11_voice_48 rfl rfl cl_X11_257 rfl rfl (c_open m (nI hh) (m 13 hh)) ?_
  refine j_iload2 52 dX11_voice_51 rfl ?_
  refine j_tabOut 113 dX11_voice_52 (by decide) rfl ?_
  refine j_aload4 115 dX11_voice_113 rfl ?_
  refine j_aload0 116 dX11_voice_115 rfl ?_
  refine j_getR 119 dX11_voice_116 rfl fl_X11_58 rfl rfl ?_
  refine j_iload3 120 dX11_voice_119 rfl ?_
  refine j_dy2f 123 dX11_voice_120 rfl rfl cu_X11_270_X5 rfl rfl (vt0_2 _ 0 x (nI hh) (m 13 hh) VS_op (by decide)) ?_
  refine j_iret dX11_voice_123 rfl ?_
  exact ⟨rfl, rfl⟩
set_option maxRecDepth 100000 in
theorem p_voice_0_3 (m : Mem) (hh : Nat) (x mk : Int32) (h8 : hh < 8) (e0 : hf (m 69) hh 0 = nI 0) (e1 : hf (m 69) hh 1 = mk) (h1 : 0 ≤ nI hh ∧ nI hh ≤ m 69 0 - 1) : JM l g 11 mX12_voice [rf g 68, .int (nI hh), .int (nI 3), .int x] m (RF (some (.int (((x + (nI hh)) * 2) ^^^ (x - mk)))) (pM [13, 11, 10, 12] 0 (opM m (nI hh)))) := by
  refine JM_of (ls := [some (rf g 68), some (.int (nI hh)), some (.int (nI 3)), some (.int x), none]) pn_X12 rfl rfl ?_
  refine j_aload0 1 dX12_voice_0 rfl ?_
  refine j_iload1 2 dX12_voice_1 rfl ?_
  refine j_vi1f 5 dX12_voice_2 rfl rfl cl_X12_199 rfl rfl (c_misHeir m _) ?_
  refine j_if_eq_bz 20 8 dX12_voice_5 rfl rfl (fun h5 => absurd h1 h5) (fun h5 => ?_)
  refine j_iload2 9 dX12_voice_8 rfl ?_
  refine j_i2l 10 dX12_voice_9 rfl ?_
  refine j_lconst 11 (v := 0) dX12_voice_10 rfl rfl ?_
  refine j_ldc2 14 dX12_voice_11 rfl kl_X12_182 ?_
  refine j_st3f 17 dX12_voice_14 rfl rfl cl_X12_47 rfl (c_in m _ 0 3) ?_
  refine j_if_ne_bz 26 20 dX12_voice_17 rfl rfl (fun h17 => ?_) (fun h17 => absurd (by decide) h17)
  refine j_aload0 27 dX12_voice_26 rfl ?_
  refine j_iload1 28 dX12_voice_27 rfl ?_
  refine j_putI 31 dX12_voice_28 rfl fp_X12_261 rfl rfl ?_
  refine j_aload0 32 dX12_voice_31 rfl ?_
  refine j_iconst 33 (v := 0) dX12_voice_32 rfl rfl ?_
  refine j_putI 36 dX12_voice_33 rfl fp_X12_255 rfl rfl ?_
  refine j_aload0 37 dX12_voice_36 rfl ?_
  refine j_aload0 38 dX12_voice_37 rfl ?_
  refine j_getI 41 dX12_voice_38 rfl fl_X12_261 rfl rfl ?_
  refine j_top (RV_op e0 e1).2.1 ?_
  refine j_iconst 42 (v := nI 0) dX12_voice_41 rfl rfl ?_
  refine j_vi2f 45 dX12_voice_42 rfl rfl cl_X12_146 rfl rfl (c_of _ hh 0 h8 (by decide)) ?_
  refine j_top (RV_op e0 e1).2.2.1 ?_
  refine j_istore4 47 dX12_voice_45 rfl rfl rfl ?_
  refine j_iload2 48 dX12_voice_47 rfl ?_
  refine j_if_ne 61 51 dX12_voice_48 rfl rfl (fun h48 => ?_) (fun h48 => absurd h48 (by decide))
  refine j_iload2 62 dX12_voice_61 rfl ?_
  refine j_iconst 63 (v := 1) dX12_voice_62 rfl rfl ?_
  refine j_cmp_ne 76 66 dX12_voice_63 rfl rfl (fun h63 => ?_) (fun h63 => absurd h63 (by decide))
  refine j_iload2 77 dX12_voice_76 rfl ?_
  refine j_iconst 78 (v := 2) dX12_voice_77 rfl rfl ?_
  refine j_cmp_ne 91 81 dX12_voice_78 rfl rfl (fun h78 => ?_) (fun h78 => absurd h78 (by decide))
  refine j_aload0 92 dX12_voice_91 rfl ?_
  refine j_iload4 94 dX12_voice_92 rfl ?_
  refine j_iload3 95 dX12_voice_94 rfl ?_
  refine j_vi2f 98 dX12_voice_95 rfl rfl cl_X12_273 rfl rfl (rt_0_0 _ 0 hh x mk h8 (RV_op e0 e1) (by decide)) ?_
  refine j_iret dX12_voice_98 rfl ?_
  exact ⟨rfl, rfl⟩
set_option maxRecDepth 100000 in
theorem o_voice_1_0 (m : Mem) (hh : Nat) (x : Int32) (h8 : hh < 8) (ek : m 12 hh = nI 1) (h1 : 0 ≤ nI hh ∧ nI hh < m 9 9 ∧ nI hh < 8) : JM l g 10 mX11_voice [rf g 0, .int (nI hh), .int (nI 0), .int x] m (RF (some (.int ((x + (nI hh)) * 3))) (pC [20, 10] 0 (opC m (nI hh) (m 13 hh)))) := by
  refine JM_of (ls := [some (rf g 0), some (.int (nI hh)), some (.int (nI 0)), some (.int x), none]) pn_X11 rfl rfl ?_
  refine j_aload0 1 dX11_voice_0 rfl ?_
  refine j_iload1 2 dX11_voice_1 rfl ?_
  refine j_vi1f 5 dX11_voice_2 rfl rfl cl_X11_124 rfl rfl (c_isHeir m _) ?_
  refine j_if_eq_bz 17 8 dX11_voice_5 rfl rfl (fun h5 => absurd h1 h5) (fun h5 => ?_)
  refine j_iload2 9 dX11_voice_8 rfl ?_
  refine j_iconst 10 (v := 0) dX11_voice_9 rfl rfl ?_
  refine j_iconst 11 (v := 3) dX11_voice_10 rfl rfl ?_
  refine j_st3f 14 dX11_voice_11 rfl rfl cl_X11_86 rfl (c_within m _ 0 3) ?_
  refine j_if_ne_bz 24 17 dX11_voice_14 rfl rfl (fun h14 => ?_) (fun h14 => absurd (by decide) h14)
  refine j_aload0 25 dX11_voice_24 rfl ?_
  refine j_getR 28 dX11_voice_25 rfl fl_X11_35 rfl rfl ?_
  refine j_iload1 29 dX11_voice_28 rfl ?_
  refine j_vi1f 32 dX11_voice_29 rfl rfl cl_X11_253 rfl rfl (c_kindOf_9 m hh 1 h8 (by decide) ek) ?_
  refine j_astore4 34 dX11_voice_32 rfl rfl rfl ?_
  refine j_aload0 35 dX11_voice_34 rfl ?_
  refine j_getR 38 dX11_voice_35 rfl fl_X11_58 rfl rfl ?_
  refine j_iload1 39 dX11_voice_38 rfl ?_
  refine j_aload0 40 dX11_voice_39 rfl ?_
  refine j_getR 43 dX11_voice_40 rfl fl_X11_35 rfl rfl ?_
  refine j_getR 46 dX11_voice_43 rfl fl_X11_130 rfl rfl ?_
  refine j_iload1 47 dX11_voice_46 rfl ?_
  refine j_iald 48 _ rfl h8 dX11_voice_47 rfl rfl ?_
  refine j_vi2v 51 dX11_voice_48 rfl rfl cl_X11_257 rfl rfl (c_open m (nI hh) (m 13 hh)) ?_
  refine j_iload2 52 dX11_voice_51 rfl ?_
  refine j_tabIn 80 dX11_voice_52 (by decide) (by decide) rfl rfl ?_
  refine j_aload4 82 dX11_voice_80 rfl ?_
  refine j_aload0 83 dX11_voice_82 rfl ?_
  refine j_getR 86 dX11_voice_83 rfl fl_X11_58 rfl rfl ?_
  refine j_iload3 87 dX11_voice_86 rfl ?_
  refine j_dy2f 90 dX11_voice_87 rfl rfl cu_X11_260_X7 rfl rfl (vl1_3 _ 0 x (nI hh) (m 13 hh) VS_op (by decide)) ?_
  refine j_iret dX11_voice_90 rfl ?_
  exact ⟨rfl, rfl⟩
set_option maxRecDepth 100000 in
theorem p_voice_1_0 (m : Mem) (hh : Nat) (x mk : Int32) (h8 : hh < 8) (e0 : hf (m 69) hh 0 = nI 1) (e1 : hf (m 69) hh 1 = mk) (h1 : 0 ≤ nI hh ∧ nI hh ≤ m 69 0 - 1) : JM l g 11 mX12_voice [rf g 68, .int (nI hh), .int (nI 0), .int x] m (RF (some (.int ((x + (nI hh)) * 3))) (pM [20, 10] 0 (opM m (nI hh)))) := by
  refine JM_of (ls := [some (rf g 68), some (.int (nI hh)), some (.int (nI 0)), some (.int x), none]) pn_X12 rfl rfl ?_
  refine j_aload0 1 dX12_voice_0 rfl ?_
  refine j_iload1 2 dX12_voice_1 rfl ?_
  refine j_vi1f 5 dX12_voice_2 rfl rfl cl_X12_199 rfl rfl (c_misHeir m _) ?_
  refine j_if_eq_bz 20 8 dX12_voice_5 rfl rfl (fun h5 => absurd h1 h5) (fun h5 => ?_)
  refine j_iload2 9 dX12_voice_8 rfl ?_
  refine j_i2l 10 dX12_voice_9 rfl ?_
  refine j_lconst 11 (v := 0) dX12_voice_10 rfl rfl ?_
  refine j_ldc2 14 dX12_voice_11 rfl kl_X12_182 ?_
  refine j_st3f 17 dX12_voice_14 rfl rfl cl_X12_47 rfl (c_in m _ 0 3) ?_
  refine j_if_ne_bz 26 20 dX12_voice_17 rfl rfl (fun h17 => ?_) (fun h17 => absurd (by decide) h17)
  refine j_aload0 27 dX12_voice_26 rfl ?_
  refine j_iload1 28 dX12_voice_27 rfl ?_
  refine j_putI 31 dX12_voice_28 rfl fp_X12_261 rfl rfl ?_
  refine j_aload0 32 dX12_voice_31 rfl ?_
  refine j_iconst 33 (v := 0) dX12_voice_32 rfl rfl ?_
  refine j_putI 36 dX12_voice_33 rfl fp_X12_255 rfl rfl ?_
  refine j_aload0 37 dX12_voice_36 rfl ?_
  refine j_aload0 38 dX12_voice_37 rfl ?_
  refine j_getI 41 dX12_voice_38 rfl fl_X12_261 rfl rfl ?_
  refine j_top (RV_op e0 e1).2.1 ?_
  refine j_iconst 42 (v := nI 0) dX12_voice_41 rfl rfl ?_
  refine j_vi2f 45 dX12_voice_42 rfl rfl cl_X12_146 rfl rfl (c_of _ hh 0 h8 (by decide)) ?_
  refine j_top (RV_op e0 e1).2.2.1 ?_
  refine j_istore4 47 dX12_voice_45 rfl rfl rfl ?_
  refine j_iload2 48 dX12_voice_47 rfl ?_
  refine j_if_ne 61 51 dX12_voice_48 rfl rfl (fun h48 => absurd h48 (by decide)) (fun h48 => ?_)
  refine j_aload0 52 dX12_voice_51 rfl ?_
  refine j_iload4 54 dX12_voice_52 rfl ?_
  refine j_iload3 55 dX12_voice_54 rfl ?_
  refine j_vi2f 58 dX12_voice_55 rfl rfl cl_X12_264 rfl rfl (rl_1 _ 0 hh 1 x mk h8 (RV_op e0 e1) (by decide)) ?_
  refine j_goto 98 dX12_voice_58 rfl ?_
  refine j_iret dX12_voice_98 rfl ?_
  exact ⟨rfl, rfl⟩
set_option maxRecDepth 100000 in
theorem o_voice_1_1 (m : Mem) (hh : Nat) (x : Int32) (h8 : hh < 8) (ek : m 12 hh = nI 1) (h1 : 0 ≤ nI hh ∧ nI hh < m 9 9 ∧ nI hh < 8) : JM l g 10 mX11_voice [rf g 0, .int (nI hh), .int (nI 1), .int x] m (RF (some (.int (((x + (nI hh)) * 3) * 2))) (pC [11, 20, 10] 0 (opC m (nI hh) (m 13 hh)))) := by
  refine JM_of (ls := [some (rf g 0), some (.int (nI hh)), some (.int (nI 1)), some (.int x), none]) pn_X11 rfl rfl ?_
  refine j_aload0 1 dX11_voice_0 rfl ?_
  refine j_iload1 2 dX11_voice_1 rfl ?_
  refine j_vi1f 5 dX11_voice_2 rfl rfl cl_X11_124 rfl rfl (c_isHeir m _) ?_
  refine j_if_eq_bz 17 8 dX11_voice_5 rfl rfl (fun h5 => absurd h1 h5) (fun h5 => ?_)
  refine j_iload2 9 dX11_voice_8 rfl ?_
  refine j_iconst 10 (v := 0) dX11_voice_9 rfl rfl ?_
  refine j_iconst 11 (v := 3) dX11_voice_10 rfl rfl ?_
  refine j_st3f 14 dX11_voice_11 rfl rfl cl_X11_86 rfl (c_within m _ 0 3) ?_
  refine j_if_ne_bz 24 17 dX11_voice_14 rfl rfl (fun h14 => ?_) (fun h14 => absurd (by decide) h14)
  refine j_aload0 25 dX11_voice_24 rfl ?_
  refine j_getR 28 dX11_voice_25 rfl fl_X11_35 rfl rfl ?_
  refine j_iload1 29 dX11_voice_28 rfl ?_
  refine j_vi1f 32 dX11_voice_29 rfl rfl cl_X11_253 rfl rfl (c_kindOf_9 m hh 1 h8 (by decide) ek) ?_
  refine j_astore4 34 dX11_voice_32 rfl rfl rfl ?_
  refine j_aload0 35 dX11_voice_34 rfl ?_
  refine j_getR 38 dX11_voice_35 rfl fl_X11_58 rfl rfl ?_
  refine j_iload1 39 dX11_voice_38 rfl ?_
  refine j_aload0 40 dX11_voice_39 rfl ?_
  refine j_getR 43 dX11_voice_40 rfl fl_X11_35 rfl rfl ?_
  refine j_getR 46 dX11_voice_43 rfl fl_X11_130 rfl rfl ?_
  refine j_iload1 47 dX11_voice_46 rfl ?_
  refine j_iald 48 _ rfl h8 dX11_voice_47 rfl rfl ?_
  refine j_vi2v 51 dX11_voice_48 rfl rfl cl_X11_257 rfl rfl (c_open m (nI hh) (m 13 hh)) ?_
  refine j_iload2 52 dX11_voice_51 rfl ?_
  refine j_tabIn 91 dX11_voice_52 (by decide) (by decide) rfl rfl ?_
  refine j_aload4 93 dX11_voice_91 rfl ?_
  refine j_aload0 94 dX11_voice_93 rfl ?_
  refine j_getR 97 dX11_voice_94 rfl fl_X11_58 rfl rfl ?_
  refine j_iload3 98 dX11_voice_97 rfl ?_
  refine j_dy2f 101 dX11_voice_98 rfl rfl cu_X11_264_X7 rfl rfl (vs0_3 _ 0 x (nI hh) (m 13 hh) VS_op (by decide)) ?_
  refine j_iret dX11_voice_101 rfl ?_
  exact ⟨rfl, rfl⟩
set_option maxRecDepth 100000 in
theorem p_voice_1_1 (m : Mem) (hh : Nat) (x mk : Int32) (h8 : hh < 8) (e0 : hf (m 69) hh 0 = nI 1) (e1 : hf (m 69) hh 1 = mk) (h1 : 0 ≤ nI hh ∧ nI hh ≤ m 69 0 - 1) : JM l g 11 mX12_voice [rf g 68, .int (nI hh), .int (nI 1), .int x] m (RF (some (.int (((x + (nI hh)) * 3) * 2))) (pM [11, 20, 10] 0 (opM m (nI hh)))) := by
  refine JM_of (ls := [some (rf g 68), some (.int (nI hh)), some (.int (nI 1)), some (.int x), none]) pn_X12 rfl rfl ?_
  refine j_aload0 1 dX12_voice_0 rfl ?_
  refine j_iload1 2 dX12_voice_1 rfl ?_
  refine j_vi1f 5 dX12_voice_2 rfl rfl cl_X12_199 rfl rfl (c_misHeir m _) ?_
  refine j_if_eq_bz 20 8 dX12_voice_5 rfl rfl (fun h5 => absurd h1 h5) (fun h5 => ?_)
  refine j_iload2 9 dX12_voice_8 rfl ?_
  refine j_i2l 10 dX12_voice_9 rfl ?_
  refine j_lconst 11 (v := 0) dX12_voice_10 rfl rfl ?_
  refine j_ldc2 14 dX12_voice_11 rfl kl_X12_182 ?_
  refine j_st3f 17 dX12_voice_14 rfl rfl cl_X12_47 rfl (c_in m _ 0 3) ?_
  refine j_if_ne_bz 26 20 dX12_voice_17 rfl rfl (fun h17 => ?_) (fun h17 => absurd (by decide) h17)
  refine j_aload0 27 dX12_voice_26 rfl ?_
  refine j_iload1 28 dX12_voice_27 rfl ?_
  refine j_putI 31 dX12_voice_28 rfl fp_X12_261 rfl rfl ?_
  refine j_aload0 32 dX12_voice_31 rfl ?_
  refine j_iconst 33 (v := 0) dX12_voice_32 rfl rfl ?_
  refine j_putI 36 dX12_voice_33 rfl fp_X12_255 rfl rfl ?_
  refine j_aload0 37 dX12_voice_36 rfl ?_
  refine j_aload0 38 dX12_voice_37 rfl ?_
  refine j_getI 41 dX12_voice_38 rfl fl_X12_261 rfl rfl ?_
  refine j_top (RV_op e0 e1).2.1 ?_
  refine j_iconst 42 (v := nI 0) dX12_voice_41 rfl rfl ?_
  refine j_vi2f 45 dX12_voice_42 rfl rfl cl_X12_146 rfl rfl (c_of _ hh 0 h8 (by decide)) ?_
  refine j_top (RV_op e0 e1).2.2.1 ?_
  refine j_istore4 47 dX12_voice_45 rfl rfl rfl ?_
  refine j_iload2 48 dX12_voice_47 rfl ?_
  refine j_if_ne 61 51 dX12_voice_48 rfl rfl (fun h48 => ?_) (fun h48 => absurd h48 (by decide))
  refine j_iload2 62 dX12_voice_61 rfl ?_
  refine j_iconst 63 (v := 1) dX12_voice_62 rfl rfl ?_
  refine j_cmp_ne 76 66 dX12_voice_63 rfl rfl (fun h63 => absurd h63 (by decide)) (fun h63 => ?_)
  refine j_aload0 67 dX12_voice_66 rfl ?_
  refine j_iload4 69 dX12_voice_67 rfl ?_
  refine j_iload3 70 dX12_voice_69 rfl ?_
  refine j_vi2f 73 dX12_voice_70 rfl rfl cl_X12_267 rfl rfl (rs_1_1 _ 0 hh x mk h8 (RV_op e0 e1) (by decide)) ?_
  refine j_goto 98 dX12_voice_73 rfl ?_
  refine j_iret dX12_voice_98 rfl ?_
  exact ⟨rfl, rfl⟩
set_option maxRecDepth 100000 in
theorem o_voice_1_2 (m : Mem) (hh : Nat) (x : Int32) (h8 : hh < 8) (ek : m 12 hh = nI 1) (h1 : 0 ≤ nI hh ∧ nI hh < m 9 9 ∧ nI hh < 8) : JM l g 10 mX11_voice [rf g 0, .int (nI hh), .int (nI 2), .int x] m (RF (some (.int (x - (m 13 hh)))) (pC [12] 0 (opC m (nI hh) (m 13 hh)))) := by
  refine JM_of (ls := [some (rf g 0), some (.int (nI hh)), some (.int (nI 2)), some (.int x), none]) pn_X11 rfl rfl ?_
  refine j_aload0 1 dX11_voice_0 rfl ?_
  refine j_iload1 2 dX11_voice_1 rfl ?_
  refine j_vi1f 5 dX11_voice_2 rfl rfl cl_X11_124 rfl rfl (c_isHeir m _) ?_
  refine j_if_eq_bz 17 8 dX11_voice_5 rfl rfl (fun h5 => absurd h1 h5) (fun h5 => ?_)
  refine j_iload2 9 dX11_voice_8 rfl ?_
  refine j_iconst 10 (v := 0) dX11_voice_9 rfl rfl ?_
  refine j_iconst 11 (v := 3) dX11_voice_10 rfl rfl ?_
  refine j_st3f 14 dX11_voice_11 rfl rfl cl_X11_86 rfl (c_within m _ 0 3) ?_
  refine j_if_ne_bz 24 17 dX11_voice_14 rfl rfl (fun h14 => ?_) (fun h14 => absurd (by decide) h14)
  refine j_aload0 25 dX11_voice_24 rfl ?_
  refine j_getR 28 dX11_voice_25 rfl fl_X11_35 rfl rfl ?_
  refine j_iload1 29 dX11_voice_28 rfl ?_
  refine j_vi1f 32 dX11_voice_29 rfl rfl cl_X11_253 rfl rfl (c_kindOf_9 m hh 1 h8 (by decide) ek) ?_
  refine j_astore4 34 dX11_voice_32 rfl rfl rfl ?_
  refine j_aload0 35 dX11_voice_34 rfl ?_
  refine j_getR 38 dX11_voice_35 rfl fl_X11_58 rfl rfl ?_
  refine j_iload1 39 dX11_voice_38 rfl ?_
  refine j_aload0 40 dX11_voice_39 rfl ?_
  refine j_getR 43 dX11_voice_40 rfl fl_X11_35 rfl rfl ?_
  refine j_getR 46 dX11_voice_43 rfl fl_X11_130 rfl rfl ?_
  refine j_iload1 47 dX11_voice_46 rfl ?_
  refine j_iald 48 _ rfl h8 dX11_voice_47 rfl rfl ?_
  refine j_vi2v 51 dX11_voice_48 rfl rfl cl_X11_257 rfl rfl (c_open m (nI hh) (m 13 hh)) ?_
  refine j_iload2 52 dX11_voice_51 rfl ?_
  refine j_tabIn 102 dX11_voice_52 (by decide) (by decide) rfl rfl ?_
  refine j_aload4 104 dX11_voice_102 rfl ?_
  refine j_aload0 105 dX11_voice_104 rfl ?_
  refine j_getR 108 dX11_voice_105 rfl fl_X11_58 rfl rfl ?_
  refine j_iload3 109 dX11_voice_108 rfl ?_
  refine j_dy2f 112 dX11_voice_109 rfl rfl cu_X11_267_X7 rfl rfl (vd0_3 _ 0 x (nI hh) (m 13 hh) VS_op (by decide)) ?_
  refine j_iret dX11_voice_112 rfl ?_
  exact ⟨rfl, rfl⟩
set_option maxRecDepth 100000 in
theorem p_voice_1_2 (m : Mem) (hh : Nat) (x mk : Int32) (h8 : hh < 8) (e0 : hf (m 69) hh 0 = nI 1) (e1 : hf (m 69) hh 1 = mk) (h1 : 0 ≤ nI hh ∧ nI hh ≤ m 69 0 - 1) : JM l g 11 mX12_voice [rf g 68, .int (nI hh), .int (nI 2), .int x] m (RF (some (.int (x - mk))) (pM [12] 0 (opM m (nI hh)))) := by
  refine JM_of (ls := [some (rf g 68), some (.int (nI hh)), some (.int (nI 2)), some (.int x), none]) pn_X12 rfl rfl ?_
  refine j_aload0 1 dX12_voice_0 rfl ?_
  refine j_iload1 2 dX12_voice_1 rfl ?_
  refine j_vi1f 5 dX12_voice_2 rfl rfl cl_X12_199 rfl rfl (c_misHeir m _) ?_
  refine j_if_eq_bz 20 8 dX12_voice_5 rfl rfl (fun h5 => absurd h1 h5) (fun h5 => ?_)
  refine j_iload2 9 dX12_voice_8 rfl ?_
  refine j_i2l 10 dX12_voice_9 rfl ?_
  refine j_lconst 11 (v := 0) dX12_voice_10 rfl rfl ?_
  refine j_ldc2 14 dX12_voice_11 rfl kl_X12_182 ?_
  refine j_st3f 17 dX12_voice_14 rfl rfl cl_X12_47 rfl (c_in m _ 0 3) ?_
  refine j_if_ne_bz 26 20 dX12_voice_17 rfl rfl (fun h17 => ?_) (fun h17 => absurd (by decide) h17)
  refine j_aload0 27 dX12_voice_26 rfl ?_
  refine j_iload1 28 dX12_voice_27 rfl ?_
  refine j_putI 31 dX12_voice_28 rfl fp_X12_261 rfl rfl ?_
  refine j_aload0 32 dX12_voice_31 rfl ?_
  refine j_iconst 33 (v := 0) dX12_voice_32 rfl rfl ?_
  refine j_putI 36 dX12_voice_33 rfl fp_X12_255 rfl rfl ?_
  refine j_aload0 37 dX12_voice_36 rfl ?_
  refine j_aload0 38 dX12_voice_37 rfl ?_
  refine j_getI 41 dX12_voice_38 rfl fl_X12_261 rfl rfl ?_
  refine j_top (RV_op e0 e1).2.1 ?_
  refine j_iconst 42 (v := nI 0) dX12_voice_41 rfl rfl ?_
  refine j_vi2f 45 dX12_voice_42 rfl rfl cl_X12_146 rfl rfl (c_of _ hh 0 h8 (by decide)) ?_
  refine j_top (RV_op e0 e1).2.2.1 ?_
  refine j_istore4 47 dX12_voice_45 rfl rfl rfl ?_
  refine j_iload2 48 dX12_voice_47 rfl ?_
  refine j_if_ne 61 51 dX12_voice_48 rfl rfl (fun h48 => ?_) (fun h48 => absurd h48 (by decide))
  refine j_iload2 62 dX12_voice_61 rfl ?_
  refine j_iconst 63 (v := 1) dX12_voice_62 rfl rfl ?_
  refine j_cmp_ne 76 66 dX12_voice_63 rfl rfl (fun h63 => ?_) (fun h63 => absurd h63 (by decide))
  refine j_iload2 77 dX12_voice_76 rfl ?_
  refine j_iconst 78 (v := 2) dX12_voice_77 rfl rfl ?_
  refine j_cmp_ne 91 81 dX12_voice_78 rfl rfl (fun h78 => absurd h78 (by decide)) (fun h78 => ?_)
  refine j_aload0 82 dX12_voice_81 rfl ?_
  refine j_iload4 84 dX12_voice_82 rfl ?_
  refine j_iload3 85 dX12_voice_84 rfl ?_
  refine j_vi2f 88 dX12_voice_85 rfl rfl cl_X12_270 rfl rfl (rd_1 _ 0 hh 1 x mk h8 (RV_op e0 e1) (by decide)) ?_
  refine j_goto 98 dX12_voice_88 rfl ?_
  refine j_iret dX12_voice_98 rfl ?_
  exact ⟨rfl, rfl⟩
set_option maxRecDepth 100000 in
theorem o_voice_1_3 (m : Mem) (hh : Nat) (x : Int32) (h8 : hh < 8) (ek : m 12 hh = nI 1) (h1 : 0 ≤ nI hh ∧ nI hh < m 9 9 ∧ nI hh < 8) : JM l g 10 mX11_voice [rf g 0, .int (nI hh), .int (nI 3), .int x] m (RF (some (.int ((((x + (nI hh)) * 3) * 2) ^^^ (x - (m 13 hh))))) (pC [13, 11, 20, 10, 12] 0 (opC m (nI hh) (m 13 hh)))) := by
  refine JM_of (ls := [some (rf g 0), some (.int (nI hh)), some (.int (nI 3)), some (.int x), none]) pn_X11 rfl rfl ?_
  refine j_aload0 1 dX11_voice_0 rfl ?_
  refine j_iload1 2 dX11_voice_1 rfl ?_
  refine j_vi1f 5 dX11_voice_2 rfl rfl cl_X11_124 rfl rfl (c_isHeir m _) ?_
  refine j_if_eq_bz 17 8 dX11_voice_5 rfl rfl (fun h5 => absurd h1 h5) (fun h5 => ?_)
  refine j_iload2 9 dX11_voice_8 rfl ?_
  refine j_iconst 10 (v := 0) dX11_voice_9 rfl rfl ?_
  refine j_iconst 11 (v := 3) dX11_voice_10 rfl rfl ?_
  refine j_st3f 14 dX11_voice_11 rfl rfl cl_X11_86 rfl (c_within m _ 0 3) ?_
  refine j_if_ne_bz 24 17 dX11_voice_14 rfl rfl (fun h14 => ?_) (fun h14 => absurd (by decide) h14)
  refine j_aload0 25 dX11_voice_24 rfl ?_
  refine j_getR 28 dX11_voice_25 rfl fl_X11_35 rfl rfl ?_
  refine j_iload1 29 dX11_voice_28 rfl ?_
  refine j_vi1f 32 dX11_voice_29 rfl rfl cl_X11_253 rfl rfl (c_kindOf_9 m hh 1 h8 (by decide) ek) ?_
  refine j_astore4 34 dX11_voice_32 rfl rfl rfl ?_
  refine j_aload0 35 dX11_voice_34 rfl ?_
  refine j_getR 38 dX11_voice_35 rfl fl_X11_58 rfl rfl ?_
  refine j_iload1 39 dX11_voice_38 rfl ?_
  refine j_aload0 40 dX11_voice_39 rfl ?_
  refine j_getR 43 dX11_voice_40 rfl fl_X11_35 rfl rfl ?_
  refine j_getR 46 dX11_voice_43 rfl fl_X11_130 rfl rfl ?_
  refine j_iload1 47 dX11_voice_46 rfl ?_
  refine j_iald 48 _ rfl h8 dX11_voice_47 rfl rfl ?_
  refine j_vi2v 51 dX11_voice_48 rfl rfl cl_X11_257 rfl rfl (c_open m (nI hh) (m 13 hh)) ?_
  refine j_iload2 52 dX11_voice_51 rfl ?_
  refine j_tabOut 113 dX11_voice_52 (by decide) rfl ?_
  refine j_aload4 115 dX11_voice_113 rfl ?_
  refine j_aload0 116 dX11_voice_115 rfl ?_
  refine j_getR 119 dX11_voice_116 rfl fl_X11_58 rfl rfl ?_
  refine j_iload3 120 dX11_voice_119 rfl ?_
  refine j_dy2f 123 dX11_voice_120 rfl rfl cu_X11_270_X7 rfl rfl (vt0_3 _ 0 x (nI hh) (m 13 hh) VS_op (by decide)) ?_
  refine j_iret dX11_voice_123 rfl ?_
  exact ⟨rfl, rfl⟩
set_option maxRecDepth 100000 in
theorem p_voice_1_3 (m : Mem) (hh : Nat) (x mk : Int32) (h8 : hh < 8) (e0 : hf (m 69) hh 0 = nI 1) (e1 : hf (m 69) hh 1 = mk) (h1 : 0 ≤ nI hh ∧ nI hh ≤ m 69 0 - 1) : JM l g 11 mX12_voice [rf g 68, .int (nI hh), .int (nI 3), .int x] m (RF (some (.int ((((x + (nI hh)) * 3) * 2) ^^^ (x - mk)))) (pM [13, 11, 20, 10, 12] 0 (opM m (nI hh)))) := by
  refine JM_of (ls := [some (rf g 68), some (.int (nI hh)), some (.int (nI 3)), some (.int x), none]) pn_X12 rfl rfl ?_
  refine j_aload0 1 dX12_voice_0 rfl ?_
  refine j_iload1 2 dX12_voice_1 rfl ?_
  refine j_vi1f 5 dX12_voice_2 rfl rfl cl_X12_199 rfl rfl (c_misHeir m _) ?_
  refine j_if_eq_bz 20 8 dX12_voice_5 rfl rfl (fun h5 => absurd h1 h5) (fun h5 => ?_)
  refine j_iload2 9 dX12_voice_8 rfl ?_
  refine j_i2l 10 dX12_voice_9 rfl ?_
  refine j_lconst 11 (v := 0) dX12_voice_10 rfl rfl ?_
  refine j_ldc2 14 dX12_voice_11 rfl kl_X12_182 ?_
  refine j_st3f 17 dX12_voice_14 rfl rfl cl_X12_47 rfl (c_in m _ 0 3) ?_
  refine j_if_ne_bz 26 20 dX12_voice_17 rfl rfl (fun h17 => ?_) (fun h17 => absurd (by decide) h17)
  refine j_aload0 27 dX12_voice_26 rfl ?_
  refine j_iload1 28 dX12_voice_27 rfl ?_
  refine j_putI 31 dX12_voice_28 rfl fp_X12_261 rfl rfl ?_
  refine j_aload0 32 dX12_voice_31 rfl ?_
  refine j_iconst 33 (v := 0) dX12_voice_32 rfl rfl ?_
  refine j_putI 36 dX12_voice_33 rfl fp_X12_255 rfl rfl ?_
  refine j_aload0 37 dX12_voice_36 rfl ?_
  refine j_aload0 38 dX12_voice_37 rfl ?_
  refine j_getI 41 dX12_voice_38 rfl fl_X12_261 rfl rfl ?_
  refine j_top (RV_op e0 e1).2.1 ?_
  refine j_iconst 42 (v := nI 0) dX12_voice_41 rfl rfl ?_
  refine j_vi2f 45 dX12_voice_42 rfl rfl cl_X12_146 rfl rfl (c_of _ hh 0 h8 (by decide)) ?_
  refine j_top (RV_op e0 e1).2.2.1 ?_
  refine j_istore4 47 dX12_voice_45 rfl rfl rfl ?_
  refine j_iload2 48 dX12_voice_47 rfl ?_
  refine j_if_ne 61 51 dX12_voice_48 rfl rfl (fun h48 => ?_) (fun h48 => absurd h48 (by decide))
  refine j_iload2 62 dX12_voice_61 rfl ?_
  refine j_iconst 63 (v := 1) dX12_voice_62 rfl rfl ?_
  refine j_cmp_ne 76 66 dX12_voice_63 rfl rfl (fun h63 => ?_) (fun h63 => absurd h63 (by decide))
  refine j_iload2 77 dX12_voice_76 rfl ?_
  refine j_iconst 78 (v := 2) dX12_voice_77 rfl rfl ?_
  refine j_cmp_ne 91 81 dX12_voice_78 rfl rfl (fun h78 => ?_) (fun h78 => absurd h78 (by decide))
  refine j_aload0 92 dX12_voice_91 rfl ?_
  refine j_iload4 94 dX12_voice_92 rfl ?_
  refine j_iload3 95 dX12_voice_94 rfl ?_
  refine j_vi2f 98 dX12_voice_95 rfl rfl cl_X12_273 rfl rfl (rt_1_1 _ 0 hh x mk h8 (RV_op e0 e1) (by decide)) ?_
  refine j_iret dX12_voice_98 rfl ?_
  exact ⟨rfl, rfl⟩
set_option maxRecDepth 100000 in
theorem o_voice_2_0 (m : Mem) (hh : Nat) (x : Int32) (h8 : hh < 8) (ek : m 12 hh = nI 2) (h1 : 0 ≤ nI hh ∧ nI hh < m 9 9 ∧ nI hh < 8) : JM l g 10 mX11_voice [rf g 0, .int (nI hh), .int (nI 0), .int x] m (RF (some (.int (x + (nI hh)))) (pC [10] 0 (opC m (nI hh) (m 13 hh)))) := by
  refine JM_of (ls := [some (rf g 0), some (.int (nI hh)), some (.int (nI 0)), some (.int x), none]) pn_X11 rfl rfl ?_
  refine j_aload0 1 dX11_voice_0 rfl ?_
  refine j_iload1 2 dX11_voice_1 rfl ?_
  refine j_vi1f 5 dX11_voice_2 rfl rfl cl_X11_124 rfl rfl (c_isHeir m _) ?_
  refine j_if_eq_bz 17 8 dX11_voice_5 rfl rfl (fun h5 => absurd h1 h5) (fun h5 => ?_)
  refine j_iload2 9 dX11_voice_8 rfl ?_
  refine j_iconst 10 (v := 0) dX11_voice_9 rfl rfl ?_
  refine j_iconst 11 (v := 3) dX11_voice_10 rfl rfl ?_
  refine j_st3f 14 dX11_voice_11 rfl rfl cl_X11_86 rfl (c_within m _ 0 3) ?_
  refine j_if_ne_bz 24 17 dX11_voice_14 rfl rfl (fun h14 => ?_) (fun h14 => absurd (by decide) h14)
  refine j_aload0 25 dX11_voice_24 rfl ?_
  refine j_getR 28 dX11_voice_25 rfl fl_X11_35 rfl rfl ?_
  refine j_iload1 29 dX11_voice_28 rfl ?_
  refine j_vi1f 32 dX11_voice_29 rfl rfl cl_X11_253 rfl rfl (c_kindOf_9 m hh 2 h8 (by decide) ek) ?_
  refine j_astore4 34 dX11_voice_32 rfl rfl rfl ?_
  refine j_aload0 35 dX11_voice_34 rfl ?_
  refine j_getR 38 dX11_voice_35 rfl fl_X11_58 rfl rfl ?_
  refine j_iload1 39 dX11_voice_38 rfl ?_
  refine j_aload0 40 dX11_voice_39 rfl ?_
  refine j_getR 43 dX11_voice_40 rfl fl_X11_35 rfl rfl ?_
  refine j_getR 46 dX11_voice_43 rfl fl_X11_130 rfl rfl ?_
  refine j_iload1 47 dX11_voice_46 rfl ?_
  refine j_iald 48 _ rfl h8 dX11_voice_47 rfl rfl ?_
  refine j_vi2v 51 dX11_voice_48 rfl rfl cl_X11_257 rfl rfl (c_open m (nI hh) (m 13 hh)) ?_
  refine j_iload2 52 dX11_voice_51 rfl ?_
  refine j_tabIn 80 dX11_voice_52 (by decide) (by decide) rfl rfl ?_
  refine j_aload4 82 dX11_voice_80 rfl ?_
  refine j_aload0 83 dX11_voice_82 rfl ?_
  refine j_getR 86 dX11_voice_83 rfl fl_X11_58 rfl rfl ?_
  refine j_iload3 87 dX11_voice_86 rfl ?_
  refine j_dy2f 90 dX11_voice_87 rfl rfl cu_X11_260_X1 rfl rfl (vl0_4 _ 0 x (nI hh) (m 13 hh) VS_op (by decide)) ?_
  refine j_iret dX11_voice_90 rfl ?_
  exact ⟨rfl, rfl⟩
set_option maxRecDepth 100000 in
theorem p_voice_2_0 (m : Mem) (hh : Nat) (x mk : Int32) (h8 : hh < 8) (e0 : hf (m 69) hh 0 = nI 2) (e1 : hf (m 69) hh 1 = mk) (h1 : 0 ≤ nI hh ∧ nI hh ≤ m 69 0 - 1) : JM l g 11 mX12_voice [rf g 68, .int (nI hh), .int (nI 0), .int x] m (RF (some (.int (x + (nI hh)))) (pM [10] 0 (opM m (nI hh)))) := by
  refine JM_of (ls := [some (rf g 68), some (.int (nI hh)), some (.int (nI 0)), some (.int x), none]) pn_X12 rfl rfl ?_
  refine j_aload0 1 dX12_voice_0 rfl ?_
  refine j_iload1 2 dX12_voice_1 rfl ?_
  refine j_vi1f 5 dX12_voice_2 rfl rfl cl_X12_199 rfl rfl (c_misHeir m _) ?_
  refine j_if_eq_bz 20 8 dX12_voice_5 rfl rfl (fun h5 => absurd h1 h5) (fun h5 => ?_)
  refine j_iload2 9 dX12_voice_8 rfl ?_
  refine j_i2l 10 dX12_voice_9 rfl ?_
  refine j_lconst 11 (v := 0) dX12_voice_10 rfl rfl ?_
  refine j_ldc2 14 dX12_voice_11 rfl kl_X12_182 ?_
  refine j_st3f 17 dX12_voice_14 rfl rfl cl_X12_47 rfl (c_in m _ 0 3) ?_
  refine j_if_ne_bz 26 20 dX12_voice_17 rfl rfl (fun h17 => ?_) (fun h17 => absurd (by decide) h17)
  refine j_aload0 27 dX12_voice_26 rfl ?_
  refine j_iload1 28 dX12_voice_27 rfl ?_
  refine j_putI 31 dX12_voice_28 rfl fp_X12_261 rfl rfl ?_
  refine j_aload0 32 dX12_voice_31 rfl ?_
  refine j_iconst 33 (v := 0) dX12_voice_32 rfl rfl ?_
  refine j_putI 36 dX12_voice_33 rfl fp_X12_255 rfl rfl ?_
  refine j_aload0 37 dX12_voice_36 rfl ?_
  refine j_aload0 38 dX12_voice_37 rfl ?_
  refine j_getI 41 dX12_voice_38 rfl fl_X12_261 rfl rfl ?_
  refine j_top (RV_op e0 e1).2.1 ?_
  refine j_iconst 42 (v := nI 0) dX12_voice_41 rfl rfl ?_
  refine j_vi2f 45 dX12_voice_42 rfl rfl cl_X12_146 rfl rfl (c_of _ hh 0 h8 (by decide)) ?_
  refine j_top (RV_op e0 e1).2.2.1 ?_
  refine j_istore4 47 dX12_voice_45 rfl rfl rfl ?_
  refine j_iload2 48 dX12_voice_47 rfl ?_
  refine j_if_ne 61 51 dX12_voice_48 rfl rfl (fun h48 => absurd h48 (by decide)) (fun h48 => ?_)
  refine j_aload0 52 dX12_voice_51 rfl ?_
  refine j_iload4 54 dX12_voice_52 rfl ?_
  refine j_iload3 55 dX12_voice_54 rfl ?_
  refine j_vi2f 58 dX12_voice_55 rfl rfl cl_X12_264 rfl rfl (rl_2 _ 0 hh 2 x mk h8 (RV_op e0 e1) (by decide)) ?_
  refine j_goto 98 dX12_voice_58 rfl ?_
  refine j_iret dX12_voice_98 rfl ?_
  exact ⟨rfl, rfl⟩
set_option maxRecDepth 100000 in
theorem o_voice_2_1 (m : Mem) (hh : Nat) (x : Int32) (h8 : hh < 8) (ek : m 12 hh = nI 2) (h1 : 0 ≤ nI hh ∧ nI hh < m 9 9 ∧ nI hh < 8) : JM l g 10 mX11_voice [rf g 0, .int (nI hh), .int (nI 1), .int x] m (RF (some (.int (((x + (nI hh)) * 2) - (1 - (m 13 hh))))) (pC [30, 11, 10, 12] 0 (opC m (nI hh) (m 13 hh)))) := by
  refine JM_of (ls := [some (rf g 0), some (.int (nI hh)), some (.int (nI 1)), some (.int x), none]) pn_X11 rfl rfl ?_
  refine j_aload0 1 dX11_voice_0 rfl ?_
  refine j_iload1 2 dX11_voice_1 rfl ?_
  refine j_vi1f 5 dX11_voice_2 rfl rfl cl_X11_124 rfl rfl (c_isHeir m _) ?_
  refine j_if_eq_bz 17 8 dX11_voice_5 rfl rfl (fun h5 => absurd h1 h5) (fun h5 => ?_)
  refine j_iload2 9 dX11_voice_8 rfl ?_
  refine j_iconst 10 (v := 0) dX11_voice_9 rfl rfl ?_
  refine j_iconst 11 (v := 3) dX11_voice_10 rfl rfl ?_
  refine j_st3f 14 dX11_voice_11 rfl rfl cl_X11_86 rfl (c_within m _ 0 3) ?_
  refine j_if_ne_bz 24 17 dX11_voice_14 rfl rfl (fun h14 => ?_) (fun h14 => absurd (by decide) h14)
  refine j_aload0 25 dX11_voice_24 rfl ?_
  refine j_getR 28 dX11_voice_25 rfl fl_X11_35 rfl rfl ?_
  refine j_iload1 29 dX11_voice_28 rfl ?_
  refine j_vi1f 32 dX11_voice_29 rfl rfl cl_X11_253 rfl rfl (c_kindOf_9 m hh 2 h8 (by decide) ek) ?_
  refine j_astore4 34 dX11_voice_32 rfl rfl rfl ?_
  refine j_aload0 35 dX11_voice_34 rfl ?_
  refine j_getR 38 dX11_voice_35 rfl fl_X11_58 rfl rfl ?_
  refine j_iload1 39 dX11_voice_38 rfl ?_
  refine j_aload0 40 dX11_voice_39 rfl ?_
  refine j_getR 43 dX11_voice_40 rfl fl_X11_35 rfl rfl ?_
  refine j_getR 46 dX11_voice_43 rfl fl_X11_130 rfl rfl ?_
  refine j_iload1 47 dX11_voice_46 rfl ?_
  refine j_iald 48 _ rfl h8 dX11_voice_47 rfl rfl ?_
  refine j_vi2v 51 dX11_voice_48 rfl rfl cl_X11_257 rfl rfl (c_open m (nI hh) (m 13 hh)) ?_
  refine j_iload2 52 dX11_voice_51 rfl ?_
  refine j_tabIn 91 dX11_voice_52 (by decide) (by decide) rfl rfl ?_
  refine j_aload4 93 dX11_voice_91 rfl ?_
  refine j_aload0 94 dX11_voice_93 rfl ?_
  refine j_getR 97 dX11_voice_94 rfl fl_X11_58 rfl rfl ?_
  refine j_iload3 98 dX11_voice_97 rfl ?_
  refine j_dy2f 101 dX11_voice_98 rfl rfl cu_X11_264_X1 rfl rfl (vs1_4 _ 0 x (nI hh) (m 13 hh) VS_op (by decide)) ?_
  refine j_iret dX11_voice_101 rfl ?_
  exact ⟨rfl, rfl⟩
set_option maxRecDepth 100000 in
theorem p_voice_2_1 (m : Mem) (hh : Nat) (x mk : Int32) (h8 : hh < 8) (e0 : hf (m 69) hh 0 = nI 2) (e1 : hf (m 69) hh 1 = mk) (h1 : 0 ≤ nI hh ∧ nI hh ≤ m 69 0 - 1) : JM l g 11 mX12_voice [rf g 68, .int (nI hh), .int (nI 1), .int x] m (RF (some (.int (((x + (nI hh)) * 2) - (1 - mk)))) (pM [30, 11, 10, 12] 0 (opM m (nI hh)))) := by
  refine JM_of (ls := [some (rf g 68), some (.int (nI hh)), some (.int (nI 1)), some (.int x), none]) pn_X12 rfl rfl ?_
  refine j_aload0 1 dX12_voice_0 rfl ?_
  refine j_iload1 2 dX12_voice_1 rfl ?_
  refine j_vi1f 5 dX12_voice_2 rfl rfl cl_X12_199 rfl rfl (c_misHeir m _) ?_
  refine j_if_eq_bz 20 8 dX12_voice_5 rfl rfl (fun h5 => absurd h1 h5) (fun h5 => ?_)
  refine j_iload2 9 dX12_voice_8 rfl ?_
  refine j_i2l 10 dX12_voice_9 rfl ?_
  refine j_lconst 11 (v := 0) dX12_voice_10 rfl rfl ?_
  refine j_ldc2 14 dX12_voice_11 rfl kl_X12_182 ?_
  refine j_st3f 17 dX12_voice_14 rfl rfl cl_X12_47 rfl (c_in m _ 0 3) ?_
  refine j_if_ne_bz 26 20 dX12_voice_17 rfl rfl (fun h17 => ?_) (fun h17 => absurd (by decide) h17)
  refine j_aload0 27 dX12_voice_26 rfl ?_
  refine j_iload1 28 dX12_voice_27 rfl ?_
  refine j_putI 31 dX12_voice_28 rfl fp_X12_261 rfl rfl ?_
  refine j_aload0 32 dX12_voice_31 rfl ?_
  refine j_iconst 33 (v := 0) dX12_voice_32 rfl rfl ?_
  refine j_putI 36 dX12_voice_33 rfl fp_X12_255 rfl rfl ?_
  refine j_aload0 37 dX12_voice_36 rfl ?_
  refine j_aload0 38 dX12_voice_37 rfl ?_
  refine j_getI 41 dX12_voice_38 rfl fl_X12_261 rfl rfl ?_
  refine j_top (RV_op e0 e1).2.1 ?_
  refine j_iconst 42 (v := nI 0) dX12_voice_41 rfl rfl ?_
  refine j_vi2f 45 dX12_voice_42 rfl rfl cl_X12_146 rfl rfl (c_of _ hh 0 h8 (by decide)) ?_
  refine j_top (RV_op e0 e1).2.2.1 ?_
  refine j_istore4 47 dX12_voice_45 rfl rfl rfl ?_
  refine j_iload2 48 dX12_voice_47 rfl ?_
  refine j_if_ne 61 51 dX12_voice_48 rfl rfl (fun h48 => ?_) (fun h48 => absurd h48 (by decide))
  refine j_iload2 62 dX12_voice_61 rfl ?_
  refine j_iconst 63 (v := 1) dX12_voice_62 rfl rfl ?_
  refine j_cmp_ne 76 66 dX12_voice_63 rfl rfl (fun h63 => absurd h63 (by decide)) (fun h63 => ?_)
  refine j_aload0 67 dX12_voice_66 rfl ?_
  refine j_iload4 69 dX12_voice_67 rfl ?_
  refine j_iload3 70 dX12_voice_69 rfl ?_
  refine j_vi2f 73 dX12_voice_70 rfl rfl cl_X12_267 rfl rfl (rs_2_2 _ 0 hh x mk h8 (RV_op e0 e1) (by decide)) ?_
  refine j_goto 98 dX12_voice_73 rfl ?_
  refine j_iret dX12_voice_98 rfl ?_
  exact ⟨rfl, rfl⟩
set_option maxRecDepth 100000 in
theorem o_voice_2_2 (m : Mem) (hh : Nat) (x : Int32) (h8 : hh < 8) (ek : m 12 hh = nI 2) (h1 : 0 ≤ nI hh ∧ nI hh < m 9 9 ∧ nI hh < 8) : JM l g 10 mX11_voice [rf g 0, .int (nI hh), .int (nI 2), .int x] m (RF (some (.int (x - (m 13 hh)))) (pC [12] 0 (opC m (nI hh) (m 13 hh)))) := by
  refine JM_of (ls := [some (rf g 0), some (.int (nI hh)), some (.int (nI 2)), some (.int x), none]) pn_X11 rfl rfl ?_
  refine j_aload0 1 dX11_voice_0 rfl ?_
  refine j_iload1 2 dX11_voice_1 rfl ?_
  refine j_vi1f 5 dX11_voice_2 rfl rfl cl_X11_124 rfl rfl (c_isHeir m _) ?_
  refine j_if_eq_bz 17 8 dX11_voice_5 rfl rfl (fun h5 => absurd h1 h5) (fun h5 => ?_)
  refine j_iload2 9 dX11_voice_8 rfl ?_
  refine j_iconst 10 (v := 0) dX11_voice_9 rfl rfl ?_
  refine j_iconst 11 (v := 3) dX11_voice_10 rfl rfl ?_
  refine j_st3f 14 dX11_voice_11 rfl rfl cl_X11_86 rfl (c_within m _ 0 3) ?_
  refine j_if_ne_bz 24 17 dX11_voice_14 rfl rfl (fun h14 => ?_) (fun h14 => absurd (by decide) h14)
  refine j_aload0 25 dX11_voice_24 rfl ?_
  refine j_getR 28 dX11_voice_25 rfl fl_X11_35 rfl rfl ?_
  refine j_iload1 29 dX11_voice_28 rfl ?_
  refine j_vi1f 32 dX11_voice_29 rfl rfl cl_X11_253 rfl rfl (c_kindOf_9 m hh 2 h8 (by decide) ek) ?_
  refine j_astore4 34 dX11_voice_32 rfl rfl rfl ?_
  refine j_aload0 35 dX11_voice_34 rfl ?_
  refine j_getR 38 dX11_voice_35 rfl fl_X11_58 rfl rfl ?_
  refine j_iload1 39 dX11_voice_38 rfl ?_
  refine j_aload0 40 dX11_voice_39 rfl ?_
  refine j_getR 43 dX11_voice_40 rfl fl_X11_35 rfl rfl ?_
  refine j_getR 46 dX11_voice_43 rfl fl_X11_130 rfl rfl ?_
  refine j_iload1 47 dX11_voice_46 rfl ?_
  refine j_iald 48 _ rfl h8 dX11_voice_47 rfl rfl ?_
  refine j_vi2v 51 dX11_voice_48 rfl rfl cl_X11_257 rfl rfl (c_open m (nI hh) (m 13 hh)) ?_
  refine j_iload2 52 dX11_voice_51 rfl ?_
  refine j_tabIn 102 dX11_voice_52 (by decide) (by decide) rfl rfl ?_
  refine j_aload4 104 dX11_voice_102 rfl ?_
  refine j_aload0 105 dX11_voice_104 rfl ?_
  refine j_getR 108 dX11_voice_105 rfl fl_X11_58 rfl rfl ?_
  refine j_iload3 109 dX11_voice_108 rfl ?_
  refine j_dy2f 112 dX11_voice_109 rfl rfl cu_X11_267_X1 rfl rfl (vd0_4 _ 0 x (nI hh) (m 13 hh) VS_op (by decide)) ?_
  refine j_iret dX11_voice_112 rfl ?_
  exact ⟨rfl, rfl⟩
set_option maxRecDepth 100000 in
theorem p_voice_2_2 (m : Mem) (hh : Nat) (x mk : Int32) (h8 : hh < 8) (e0 : hf (m 69) hh 0 = nI 2) (e1 : hf (m 69) hh 1 = mk) (h1 : 0 ≤ nI hh ∧ nI hh ≤ m 69 0 - 1) : JM l g 11 mX12_voice [rf g 68, .int (nI hh), .int (nI 2), .int x] m (RF (some (.int (x - mk))) (pM [12] 0 (opM m (nI hh)))) := by
  refine JM_of (ls := [some (rf g 68), some (.int (nI hh)), some (.int (nI 2)), some (.int x), none]) pn_X12 rfl rfl ?_
  refine j_aload0 1 dX12_voice_0 rfl ?_
  refine j_iload1 2 dX12_voice_1 rfl ?_
  refine j_vi1f 5 dX12_voice_2 rfl rfl cl_X12_199 rfl rfl (c_misHeir m _) ?_
  refine j_if_eq_bz 20 8 dX12_voice_5 rfl rfl (fun h5 => absurd h1 h5) (fun h5 => ?_)
  refine j_iload2 9 dX12_voice_8 rfl ?_
  refine j_i2l 10 dX12_voice_9 rfl ?_
  refine j_lconst 11 (v := 0) dX12_voice_10 rfl rfl ?_
  refine j_ldc2 14 dX12_voice_11 rfl kl_X12_182 ?_
  refine j_st3f 17 dX12_voice_14 rfl rfl cl_X12_47 rfl (c_in m _ 0 3) ?_
  refine j_if_ne_bz 26 20 dX12_voice_17 rfl rfl (fun h17 => ?_) (fun h17 => absurd (by decide) h17)
  refine j_aload0 27 dX12_voice_26 rfl ?_
  refine j_iload1 28 dX12_voice_27 rfl ?_
  refine j_putI 31 dX12_voice_28 rfl fp_X12_261 rfl rfl ?_
  refine j_aload0 32 dX12_voice_31 rfl ?_
  refine j_iconst 33 (v := 0) dX12_voice_32 rfl rfl ?_
  refine j_putI 36 dX12_voice_33 rfl fp_X12_255 rfl rfl ?_
  refine j_aload0 37 dX12_voice_36 rfl ?_
  refine j_aload0 38 dX12_voice_37 rfl ?_
  refine j_getI 41 dX12_voice_38 rfl fl_X12_261 rfl rfl ?_
  refine j_top (RV_op e0 e1).2.1 ?_
  refine j_iconst 42 (v := nI 0) dX12_voice_41 rfl rfl ?_
  refine j_vi2f 45 dX12_voice_42 rfl rfl cl_X12_146 rfl rfl (c_of _ hh 0 h8 (by decide)) ?_
  refine j_top (RV_op e0 e1).2.2.1 ?_
  refine j_istore4 47 dX12_voice_45 rfl rfl rfl ?_
  refine j_iload2 48 dX12_voice_47 rfl ?_
  refine j_if_ne 61 51 dX12_voice_48 rfl rfl (fun h48 => ?_) (fun h48 => absurd h48 (by decide))
  refine j_iload2 62 dX12_voice_61 rfl ?_
  refine j_iconst 63 (v := 1) dX12_voice_62 rfl rfl ?_
  refine j_cmp_ne 76 66 dX12_voice_63 rfl rfl (fun h63 => ?_) (fun h63 => absurd h63 (by decide))
  refine j_iload2 77 dX12_voice_76 rfl ?_
  refine j_iconst 78 (v := 2) dX12_voice_77 rfl rfl ?_
  refine j_cmp_ne 91 81 dX12_voice_78 rfl rfl (fun h78 => absurd h78 (by decide)) (fun h78 => ?_)
  refine j_aload0 82 dX12_voice_81 rfl ?_
  refine j_iload4 84 dX12_voice_82 rfl ?_
  refine j_iload3 85 dX12_voice_84 rfl ?_
  refine j_vi2f 88 dX12_voice_85 rfl rfl cl_X12_270 rfl rfl (rd_2 _ 0 hh 2 x mk h8 (RV_op e0 e1) (by decide)) ?_
  refine j_goto 98 dX12_voice_88 rfl ?_
  refine j_iret dX12_voice_98 rfl ?_
  exact ⟨rfl, rfl⟩
set_option maxRecDepth 100000 in
theorem o_voice_2_3 (m : Mem) (hh : Nat) (x : Int32) (h8 : hh < 8) (ek : m 12 hh = nI 2) (h1 : 0 ≤ nI hh ∧ nI hh < m 9 9 ∧ nI hh < 8) : JM l g 10 mX11_voice [rf g 0, .int (nI hh), .int (nI 3), .int x] m (RF (some (.int ((((x + (nI hh)) * 2) - (1 - (m 13 hh))) ^^^ (x - (m 13 hh))))) (pC [13, 30, 11, 10, 12, 12] 0 (opC m (nI hh) (m 13 hh)))) := by
  refine JM_of (ls := [some (rf g 0), some (.int (nI hh)), some (.int (nI 3)), some (.int x), none]) pn_X11 rfl rfl ?_
  refine j_aload0 1 dX11_voice_0 rfl ?_
  refine j_iload1 2 dX11_voice_1 rfl ?_
  refine j_vi1f 5 dX11_voice_2 rfl rfl cl_X11_124 rfl rfl (c_isHeir m _) ?_
  refine j_if_eq_bz 17 8 dX11_voice_5 rfl rfl (fun h5 => absurd h1 h5) (fun h5 => ?_)
  refine j_iload2 9 dX11_voice_8 rfl ?_
  refine j_iconst 10 (v := 0) dX11_voice_9 rfl rfl ?_
  refine j_iconst 11 (v := 3) dX11_voice_10 rfl rfl ?_
  refine j_st3f 14 dX11_voice_11 rfl rfl cl_X11_86 rfl (c_within m _ 0 3) ?_
  refine j_if_ne_bz 24 17 dX11_voice_14 rfl rfl (fun h14 => ?_) (fun h14 => absurd (by decide) h14)
  refine j_aload0 25 dX11_voice_24 rfl ?_
  refine j_getR 28 dX11_voice_25 rfl fl_X11_35 rfl rfl ?_
  refine j_iload1 29 dX11_voice_28 rfl ?_
  refine j_vi1f 32 dX11_voice_29 rfl rfl cl_X11_253 rfl rfl (c_kindOf_9 m hh 2 h8 (by decide) ek) ?_
  refine j_astore4 34 dX11_voice_32 rfl rfl rfl ?_
  refine j_aload0 35 dX11_voice_34 rfl ?_
  refine j_getR 38 dX11_voice_35 rfl fl_X11_58 rfl rfl ?_
  refine j_iload1 39 dX11_voice_38 rfl ?_
  refine j_aload0 40 dX11_voice_39 rfl ?_
  refine j_getR 43 dX11_voice_40 rfl fl_X11_35 rfl rfl ?_
  refine j_getR 46 dX11_voice_43 rfl fl_X11_130 rfl rfl ?_
  refine j_iload1 47 dX11_voice_46 rfl ?_
  refine j_iald 48 _ rfl h8 dX11_voice_47 rfl rfl ?_
  refine j_vi2v 51 dX11_voice_48 rfl rfl cl_X11_257 rfl rfl (c_open m (nI hh) (m 13 hh)) ?_
  refine j_iload2 52 dX11_voice_51 rfl ?_
  refine j_tabOut 113 dX11_voice_52 (by decide) rfl ?_
  refine j_aload4 115 dX11_voice_113 rfl ?_
  refine j_aload0 116 dX11_voice_115 rfl ?_
  refine j_getR 119 dX11_voice_116 rfl fl_X11_58 rfl rfl ?_
  refine j_iload3 120 dX11_voice_119 rfl ?_
  refine j_dy2f 123 dX11_voice_120 rfl rfl cu_X11_270_X1 rfl rfl (vt0_4 _ 0 x (nI hh) (m 13 hh) VS_op (by decide)) ?_
  refine j_iret dX11_voice_123 rfl ?_
  exact ⟨rfl, rfl⟩
set_option maxRecDepth 100000 in
theorem p_voice_2_3 (m : Mem) (hh : Nat) (x mk : Int32) (h8 : hh < 8) (e0 : hf (m 69) hh 0 = nI 2) (e1 : hf (m 69) hh 1 = mk) (h1 : 0 ≤ nI hh ∧ nI hh ≤ m 69 0 - 1) : JM l g 11 mX12_voice [rf g 68, .int (nI hh), .int (nI 3), .int x] m (RF (some (.int ((((x + (nI hh)) * 2) - (1 - mk)) ^^^ (x - mk)))) (pM [13, 30, 11, 10, 12, 12] 0 (opM m (nI hh)))) := by
  refine JM_of (ls := [some (rf g 68), some (.int (nI hh)), some (.int (nI 3)), some (.int x), none]) pn_X12 rfl rfl ?_
  refine j_aload0 1 dX12_voice_0 rfl ?_
  refine j_iload1 2 dX12_voice_1 rfl ?_
  refine j_vi1f 5 dX12_voice_2 rfl rfl cl_X12_199 rfl rfl (c_misHeir m _) ?_
  refine j_if_eq_bz 20 8 dX12_voice_5 rfl rfl (fun h5 => absurd h1 h5) (fun h5 => ?_)
  refine j_iload2 9 dX12_voice_8 rfl ?_
  refine j_i2l 10 dX12_voice_9 rfl ?_
  refine j_lconst 11 (v := 0) dX12_voice_10 rfl rfl ?_
  refine j_ldc2 14 dX12_voice_11 rfl kl_X12_182 ?_
  refine j_st3f 17 dX12_voice_14 rfl rfl cl_X12_47 rfl (c_in m _ 0 3) ?_
  refine j_if_ne_bz 26 20 dX12_voice_17 rfl rfl (fun h17 => ?_) (fun h17 => absurd (by decide) h17)
  refine j_aload0 27 dX12_voice_26 rfl ?_
  refine j_iload1 28 dX12_voice_27 rfl ?_
  refine j_putI 31 dX12_voice_28 rfl fp_X12_261 rfl rfl ?_
  refine j_aload0 32 dX12_voice_31 rfl ?_
  refine j_iconst 33 (v := 0) dX12_voice_32 rfl rfl ?_
  refine j_putI 36 dX12_voice_33 rfl fp_X12_255 rfl rfl ?_
  refine j_aload0 37 dX12_voice_36 rfl ?_
  refine j_aload0 38 dX12_voice_37 rfl ?_
  refine j_getI 41 dX12_voice_38 rfl fl_X12_261 rfl rfl ?_
  refine j_top (RV_op e0 e1).2.1 ?_
  refine j_iconst 42 (v := nI 0) dX12_voice_41 rfl rfl ?_
  refine j_vi2f 45 dX12_voice_42 rfl rfl cl_X12_146 rfl rfl (c_of _ hh 0 h8 (by decide)) ?_
  refine j_top (RV_op e0 e1).2.2.1 ?_
  refine j_istore4 47 dX12_voice_45 rfl rfl rfl ?_
  refine j_iload2 48 dX12_voice_47 rfl ?_
  refine j_if_ne 61 51 dX12_voice_48 rfl rfl (fun h48 => ?_) (fun h48 => absurd h48 (by decide))
  refine j_iload2 62 dX12_voice_61 rfl ?_
  refine j_iconst 63 (v := 1) dX12_voice_62 rfl rfl ?_
  refine j_cmp_ne 76 66 dX12_voice_63 rfl rfl (fun h63 => ?_) (fun h63 => absurd h63 (by decide))
  refine j_iload2 77 dX12_voice_76 rfl ?_
  refine j_iconst 78 (v := 2) dX12_voice_77 rfl rfl ?_
  refine j_cmp_ne 91 81 dX12_voice_78 rfl rfl (fun h78 => ?_) (fun h78 => absurd h78 (by decide))
  refine j_aload0 92 dX12_voice_91 rfl ?_
  refine j_iload4 94 dX12_voice_92 rfl ?_
  refine j_iload3 95 dX12_voice_94 rfl ?_
  refine j_vi2f 98 dX12_voice_95 rfl rfl cl_X12_273 rfl rfl (rt_2_2 _ 0 hh x mk h8 (RV_op e0 e1) (by decide)) ?_
  refine j_iret dX12_voice_98 rfl ?_
  exact ⟨rfl, rfl⟩
set_option maxRecDepth 100000 in
theorem o_voice_3_0 (m : Mem) (hh : Nat) (x : Int32) (h8 : hh < 8) (ek : m 12 hh = nI 3) (h1 : 0 ≤ nI hh ∧ nI hh < m 9 9 ∧ nI hh < 8) : JM l g 10 mX11_voice [rf g 0, .int (nI hh), .int (nI 0), .int x] m (RF (some (.int (x + (nI hh)))) (pC [10] 0 (opC m (nI hh) (m 13 hh)))) := by
  refine JM_of (ls := [some (rf g 0), some (.int (nI hh)), some (.int (nI 0)), some (.int x), none]) pn_X11 rfl rfl ?_
  refine j_aload0 1 dX11_voice_0 rfl ?_
  refine j_iload1 2 dX11_voice_1 rfl ?_
  refine j_vi1f 5 dX11_voice_2 rfl rfl cl_X11_124 rfl rfl (c_isHeir m _) ?_
  refine j_if_eq_bz 17 8 dX11_voice_5 rfl rfl (fun h5 => absurd h1 h5) (fun h5 => ?_)
  refine j_iload2 9 dX11_voice_8 rfl ?_
  refine j_iconst 10 (v := 0) dX11_voice_9 rfl rfl ?_
  refine j_iconst 11 (v := 3) dX11_voice_10 rfl rfl ?_
  refine j_st3f 14 dX11_voice_11 rfl rfl cl_X11_86 rfl (c_within m _ 0 3) ?_
  refine j_if_ne_bz 24 17 dX11_voice_14 rfl rfl (fun h14 => ?_) (fun h14 => absurd (by decide) h14)
  refine j_aload0 25 dX11_voice_24 rfl ?_
  refine j_getR 28 dX11_voice_25 rfl fl_X11_35 rfl rfl ?_
  refine j_iload1 29 dX11_voice_28 rfl ?_
  refine j_vi1f 32 dX11_voice_29 rfl rfl cl_X11_253 rfl rfl (c_kindOf_9 m hh 3 h8 (by decide) ek) ?_
  refine j_astore4 34 dX11_voice_32 rfl rfl rfl ?_
  refine j_aload0 35 dX11_voice_34 rfl ?_
  refine j_getR 38 dX11_voice_35 rfl fl_X11_58 rfl rfl ?_
  refine j_iload1 39 dX11_voice_38 rfl ?_
  refine j_aload0 40 dX11_voice_39 rfl ?_
  refine j_getR 43 dX11_voice_40 rfl fl_X11_35 rfl rfl ?_
  refine j_getR 46 dX11_voice_43 rfl fl_X11_130 rfl rfl ?_
  refine j_iload1 47 dX11_voice_46 rfl ?_
  refine j_iald 48 _ rfl h8 dX11_voice_47 rfl rfl ?_
  refine j_vi2v 51 dX11_voice_48 rfl rfl cl_X11_257 rfl rfl (c_open m (nI hh) (m 13 hh)) ?_
  refine j_iload2 52 dX11_voice_51 rfl ?_
  refine j_tabIn 80 dX11_voice_52 (by decide) (by decide) rfl rfl ?_
  refine j_aload4 82 dX11_voice_80 rfl ?_
  refine j_aload0 83 dX11_voice_82 rfl ?_
  refine j_getR 86 dX11_voice_83 rfl fl_X11_58 rfl rfl ?_
  refine j_iload3 87 dX11_voice_86 rfl ?_
  refine j_dy2f 90 dX11_voice_87 rfl rfl cu_X11_260_X0 rfl rfl (vl0_5 _ 0 x (nI hh) (m 13 hh) VS_op (by decide)) ?_
  refine j_iret dX11_voice_90 rfl ?_
  exact ⟨rfl, rfl⟩
set_option maxRecDepth 100000 in
theorem p_voice_3_0 (m : Mem) (hh : Nat) (x mk : Int32) (h8 : hh < 8) (e0 : hf (m 69) hh 0 = nI 3) (e1 : hf (m 69) hh 1 = mk) (h1 : 0 ≤ nI hh ∧ nI hh ≤ m 69 0 - 1) : JM l g 11 mX12_voice [rf g 68, .int (nI hh), .int (nI 0), .int x] m (RF (some (.int (x + (nI hh)))) (pM [10] 0 (opM m (nI hh)))) := by
  refine JM_of (ls := [some (rf g 68), some (.int (nI hh)), some (.int (nI 0)), some (.int x), none]) pn_X12 rfl rfl ?_
  refine j_aload0 1 dX12_voice_0 rfl ?_
  refine j_iload1 2 dX12_voice_1 rfl ?_
  refine j_vi1f 5 dX12_voice_2 rfl rfl cl_X12_199 rfl rfl (c_misHeir m _) ?_
  refine j_if_eq_bz 20 8 dX12_voice_5 rfl rfl (fun h5 => absurd h1 h5) (fun h5 => ?_)
  refine j_iload2 9 dX12_voice_8 rfl ?_
  refine j_i2l 10 dX12_voice_9 rfl ?_
  refine j_lconst 11 (v := 0) dX12_voice_10 rfl rfl ?_
  refine j_ldc2 14 dX12_voice_11 rfl kl_X12_182 ?_
  refine j_st3f 17 dX12_voice_14 rfl rfl cl_X12_47 rfl (c_in m _ 0 3) ?_
  refine j_if_ne_bz 26 20 dX12_voice_17 rfl rfl (fun h17 => ?_) (fun h17 => absurd (by decide) h17)
  refine j_aload0 27 dX12_voice_26 rfl ?_
  refine j_iload1 28 dX12_voice_27 rfl ?_
  refine j_putI 31 dX12_voice_28 rfl fp_X12_261 rfl rfl ?_
  refine j_aload0 32 dX12_voice_31 rfl ?_
  refine j_iconst 33 (v := 0) dX12_voice_32 rfl rfl ?_
  refine j_putI 36 dX12_voice_33 rfl fp_X12_255 rfl rfl ?_
  refine j_aload0 37 dX12_voice_36 rfl ?_
  refine j_aload0 38 dX12_voice_37 rfl ?_
  refine j_getI 41 dX12_voice_38 rfl fl_X12_261 rfl rfl ?_
  refine j_top (RV_op e0 e1).2.1 ?_
  refine j_iconst 42 (v := nI 0) dX12_voice_41 rfl rfl ?_
  refine j_vi2f 45 dX12_voice_42 rfl rfl cl_X12_146 rfl rfl (c_of _ hh 0 h8 (by decide)) ?_
  refine j_top (RV_op e0 e1).2.2.1 ?_
  refine j_istore4 47 dX12_voice_45 rfl rfl rfl ?_
  refine j_iload2 48 dX12_voice_47 rfl ?_
  refine j_if_ne 61 51 dX12_voice_48 rfl rfl (fun h48 => absurd h48 (by decide)) (fun h48 => ?_)
  refine j_aload0 52 dX12_voice_51 rfl ?_
  refine j_iload4 54 dX12_voice_52 rfl ?_
  refine j_iload3 55 dX12_voice_54 rfl ?_
  refine j_vi2f 58 dX12_voice_55 rfl rfl cl_X12_264 rfl rfl (rl_3 _ 0 hh 3 x mk h8 (RV_op e0 e1) (by decide)) ?_
  refine j_goto 98 dX12_voice_58 rfl ?_
  refine j_iret dX12_voice_98 rfl ?_
  exact ⟨rfl, rfl⟩
set_option maxRecDepth 100000 in
theorem o_voice_3_1 (m : Mem) (hh : Nat) (x : Int32) (h8 : hh < 8) (ek : m 12 hh = nI 3) (h1 : 0 ≤ nI hh ∧ nI hh < m 9 9 ∧ nI hh < 8) : JM l g 10 mX11_voice [rf g 0, .int (nI hh), .int (nI 1), .int x] m (RF (some (.int ((x + (nI hh)) * 2))) (pC [11, 10] 0 (opC m (nI hh) (m 13 hh)))) := by
  refine JM_of (ls := [some (rf g 0), some (.int (nI hh)), some (.int (nI 1)), some (.int x), none]) pn_X11 rfl rfl ?_
  refine j_aload0 1 dX11_voice_0 rfl ?_
  refine j_iload1 2 dX11_voice_1 rfl ?_
  refine j_vi1f 5 dX11_voice_2 rfl rfl cl_X11_124 rfl rfl (c_isHeir m _) ?_
  refine j_if_eq_bz 17 8 dX11_voice_5 rfl rfl (fun h5 => absurd h1 h5) (fun h5 => ?_)
  refine j_iload2 9 dX11_voice_8 rfl ?_
  refine j_iconst 10 (v := 0) dX11_voice_9 rfl rfl ?_
  refine j_iconst 11 (v := 3) dX11_voice_10 rfl rfl ?_
  refine j_st3f 14 dX11_voice_11 rfl rfl cl_X11_86 rfl (c_within m _ 0 3) ?_
  refine j_if_ne_bz 24 17 dX11_voice_14 rfl rfl (fun h14 => ?_) (fun h14 => absurd (by decide) h14)
  refine j_aload0 25 dX11_voice_24 rfl ?_
  refine j_getR 28 dX11_voice_25 rfl fl_X11_35 rfl rfl ?_
  refine j_iload1 29 dX11_voice_28 rfl ?_
  refine j_vi1f 32 dX11_voice_29 rfl rfl cl_X11_253 rfl rfl (c_kindOf_9 m hh 3 h8 (by decide) ek) ?_
  refine j_astore4 34 dX11_voice_32 rfl rfl rfl ?_
  refine j_aload0 35 dX11_voice_34 rfl ?_
  refine j_getR 38 dX11_voice_35 rfl fl_X11_58 rfl rfl ?_
  refine j_iload1 39 dX11_voice_38 rfl ?_
  refine j_aload0 40 dX11_voice_39 rfl ?_
  refine j_getR 43 dX11_voice_40 rfl fl_X11_35 rfl rfl ?_
  refine j_getR 46 dX11_voice_43 rfl fl_X11_130 rfl rfl ?_
  refine j_iload1 47 dX11_voice_46 rfl ?_
  refine j_iald 48 _ rfl h8 dX11_voice_47 rfl rfl ?_
  refine j_vi2v 51 dX11_voice_48 rfl rfl cl_X11_257 rfl rfl (c_open m (nI hh) (m 13 hh)) ?_
  refine j_iload2 52 dX11_voice_51 rfl ?_
  refine j_tabIn 91 dX11_voice_52 (by decide) (by decide) rfl rfl ?_
  refine j_aload4 93 dX11_voice_91 rfl ?_
  refine j_aload0 94 dX11_voice_93 rfl ?_
  refine j_getR 97 dX11_voice_94 rfl fl_X11_58 rfl rfl ?_
  refine j_iload3 98 dX11_voice_97 rfl ?_
  refine j_dy2f 101 dX11_voice_98 rfl rfl cu_X11_264_X0 rfl rfl (vs0_5 _ 0 x (nI hh) (m 13 hh) VS_op (by decide)) ?_
  refine j_iret dX11_voice_101 rfl ?_
  exact ⟨rfl, rfl⟩
set_option maxRecDepth 100000 in
theorem p_voice_3_1 (m : Mem) (hh : Nat) (x mk : Int32) (h8 : hh < 8) (e0 : hf (m 69) hh 0 = nI 3) (e1 : hf (m 69) hh 1 = mk) (h1 : 0 ≤ nI hh ∧ nI hh ≤ m 69 0 - 1) : JM l g 11 mX12_voice [rf g 68, .int (nI hh), .int (nI 1), .int x] m (RF (some (.int ((x + (nI hh)) * 2))) (pM [11, 10] 0 (opM m (nI hh)))) := by
  refine JM_of (ls := [some (rf g 68), some (.int (nI hh)), some (.int (nI 1)), some (.int x), none]) pn_X12 rfl rfl ?_
  refine j_aload0 1 dX12_voice_0 rfl ?_
  refine j_iload1 2 dX12_voice_1 rfl ?_
  refine j_vi1f 5 dX12_voice_2 rfl rfl cl_X12_199 rfl rfl (c_misHeir m _) ?_
  refine j_if_eq_bz 20 8 dX12_voice_5 rfl rfl (fun h5 => absurd h1 h5) (fun h5 => ?_)
  refine j_iload2 9 dX12_voice_8 rfl ?_
  refine j_i2l 10 dX12_voice_9 rfl ?_
  refine j_lconst 11 (v := 0) dX12_voice_10 rfl rfl ?_
  refine j_ldc2 14 dX12_voice_11 rfl kl_X12_182 ?_
  refine j_st3f 17 dX12_voice_14 rfl rfl cl_X12_47 rfl (c_in m _ 0 3) ?_
  refine j_if_ne_bz 26 20 dX12_voice_17 rfl rfl (fun h17 => ?_) (fun h17 => absurd (by decide) h17)
  refine j_aload0 27 dX12_voice_26 rfl ?_
  refine j_iload1 28 dX12_voice_27 rfl ?_
  refine j_putI 31 dX12_voice_28 rfl fp_X12_261 rfl rfl ?_
  refine j_aload0 32 dX12_voice_31 rfl ?_
  refine j_iconst 33 (v := 0) dX12_voice_32 rfl rfl ?_
  refine j_putI 36 dX12_voice_33 rfl fp_X12_255 rfl rfl ?_
  refine j_aload0 37 dX12_voice_36 rfl ?_
  refine j_aload0 38 dX12_voice_37 rfl ?_
  refine j_getI 41 dX12_voice_38 rfl fl_X12_261 rfl rfl ?_
  refine j_top (RV_op e0 e1).2.1 ?_
  refine j_iconst 42 (v := nI 0) dX12_voice_41 rfl rfl ?_
  refine j_vi2f 45 dX12_voice_42 rfl rfl cl_X12_146 rfl rfl (c_of _ hh 0 h8 (by decide)) ?_
  refine j_top (RV_op e0 e1).2.2.1 ?_
  refine j_istore4 47 dX12_voice_45 rfl rfl rfl ?_
  refine j_iload2 48 dX12_voice_47 rfl ?_
  refine j_if_ne 61 51 dX12_voice_48 rfl rfl (fun h48 => ?_) (fun h48 => absurd h48 (by decide))
  refine j_iload2 62 dX12_voice_61 rfl ?_
  refine j_iconst 63 (v := 1) dX12_voice_62 rfl rfl ?_
  refine j_cmp_ne 76 66 dX12_voice_63 rfl rfl (fun h63 => absurd h63 (by decide)) (fun h63 => ?_)
  refine j_aload0 67 dX12_voice_66 rfl ?_
  refine j_iload4 69 dX12_voice_67 rfl ?_
  refine j_iload3 70 dX12_voice_69 rfl ?_
  refine j_vi2f 73 dX12_voice_70 rfl rfl cl_X12_267 rfl rfl (rs_3_3 _ 0 hh x mk h8 (RV_op e0 e1) (by decide)) ?_
  refine j_goto 98 dX12_voice_73 rfl ?_
  refine j_iret dX12_voice_98 rfl ?_
  exact ⟨rfl, rfl⟩
set_option maxRecDepth 100000 in
theorem o_voice_3_2 (m : Mem) (hh : Nat) (x : Int32) (h8 : hh < 8) (ek : m 12 hh = nI 3) (h1 : 0 ≤ nI hh ∧ nI hh < m 9 9 ∧ nI hh < 8) : JM l g 10 mX11_voice [rf g 0, .int (nI hh), .int (nI 2), .int x] m (RF (some (.int (-(x - (m 13 hh))))) (pC [40, 12] 0 (opC m (nI hh) (m 13 hh)))) := by
  refine JM_of (ls := [some (rf g 0), some (.int (nI hh)), some (.int (nI 2)), some (.int x), none]) pn_X11 rfl rfl ?_
  refine j_aload0 1 dX11_voice_0 rfl ?_
  refine j_iload1 2 dX11_voice_1 rfl ?_
  refine j_vi1f 5 dX11_voice_2 rfl rfl cl_X11_124 rfl rfl (c_isHeir m _) ?_
  refine j_if_eq_bz 17 8 dX11_voice_5 rfl rfl (fun h5 => absurd h1 h5) (fun h5 => ?_)
  refine j_iload2 9 dX11_voice_8 rfl ?_
  refine j_iconst 10 (v := 0) dX11_voice_9 rfl rfl ?_
  refine j_iconst 11 (v := 3) dX11_voice_10 rfl rfl ?_
  refine j_st3f 14 dX11_voice_11 rfl rfl cl_X11_86 rfl (c_within m _ 0 3) ?_
  refine j_if_ne_bz 24 17 dX11_voice_14 rfl rfl (fun h14 => ?_) (fun h14 => absurd (by decide) h14)
  refine j_aload0 25 dX11_voice_24 rfl ?_
  refine j_getR 28 dX11_voice_25 rfl fl_X11_35 rfl rfl ?_
  refine j_iload1 29 dX11_voice_28 rfl ?_
  refine j_vi1f 32 dX11_voice_29 rfl rfl cl_X11_253 rfl rfl (c_kindOf_9 m hh 3 h8 (by decide) ek) ?_
  refine j_astore4 34 dX11_voice_32 rfl rfl rfl ?_
  refine j_aload0 35 dX11_voice_34 rfl ?_
  refine j_getR 38 dX11_voice_35 rfl fl_X11_58 rfl rfl ?_
  refine j_iload1 39 dX11_voice_38 rfl ?_
  refine j_aload0 40 dX11_voice_39 rfl ?_
  refine j_getR 43 dX11_voice_40 rfl fl_X11_35 rfl rfl ?_
  refine j_getR 46 dX11_voice_43 rfl fl_X11_130 rfl rfl ?_
  refine j_iload1 47 dX11_voice_46 rfl ?_
  refine j_iald 48 _ rfl h8 dX11_voice_47 rfl rfl ?_
  refine j_vi2v 51 dX11_voice_48 rfl rfl cl_X11_257 rfl rfl (c_open m (nI hh) (m 13 hh)) ?_
  refine j_iload2 52 dX11_voice_51 rfl ?_
  refine j_tabIn 102 dX11_voice_52 (by decide) (by decide) rfl rfl ?_
  refine j_aload4 104 dX11_voice_102 rfl ?_
  refine j_aload0 105 dX11_voice_104 rfl ?_
  refine j_getR 108 dX11_voice_105 rfl fl_X11_58 rfl rfl ?_
  refine j_iload3 109 dX11_voice_108 rfl ?_
  refine j_dy2f 112 dX11_voice_109 rfl rfl cu_X11_267_X0 rfl rfl (vd1_5 _ 0 x (nI hh) (m 13 hh) VS_op (by decide)) ?_
  refine j_iret dX11_voice_112 rfl ?_
  exact ⟨rfl, rfl⟩
set_option maxRecDepth 100000 in
theorem p_voice_3_2 (m : Mem) (hh : Nat) (x mk : Int32) (h8 : hh < 8) (e0 : hf (m 69) hh 0 = nI 3) (e1 : hf (m 69) hh 1 = mk) (h1 : 0 ≤ nI hh ∧ nI hh ≤ m 69 0 - 1) : JM l g 11 mX12_voice [rf g 68, .int (nI hh), .int (nI 2), .int x] m (RF (some (.int (-(x - mk)))) (pM [40, 12] 0 (opM m (nI hh)))) := by
  refine JM_of (ls := [some (rf g 68), some (.int (nI hh)), some (.int (nI 2)), some (.int x), none]) pn_X12 rfl rfl ?_
  refine j_aload0 1 dX12_voice_0 rfl ?_
  refine j_iload1 2 dX12_voice_1 rfl ?_
  refine j_vi1f 5 dX12_voice_2 rfl rfl cl_X12_199 rfl rfl (c_misHeir m _) ?_
  refine j_if_eq_bz 20 8 dX12_voice_5 rfl rfl (fun h5 => absurd h1 h5) (fun h5 => ?_)
  refine j_iload2 9 dX12_voice_8 rfl ?_
  refine j_i2l 10 dX12_voice_9 rfl ?_
  refine j_lconst 11 (v := 0) dX12_voice_10 rfl rfl ?_
  refine j_ldc2 14 dX12_voice_11 rfl kl_X12_182 ?_
  refine j_st3f 17 dX12_voice_14 rfl rfl cl_X12_47 rfl (c_in m _ 0 3) ?_
  refine j_if_ne_bz 26 20 dX12_voice_17 rfl rfl (fun h17 => ?_) (fun h17 => absurd (by decide) h17)
  refine j_aload0 27 dX12_voice_26 rfl ?_
  refine j_iload1 28 dX12_voice_27 rfl ?_
  refine j_putI 31 dX12_voice_28 rfl fp_X12_261 rfl rfl ?_
  refine j_aload0 32 dX12_voice_31 rfl ?_
  refine j_iconst 33 (v := 0) dX12_voice_32 rfl rfl ?_
  refine j_putI 36 dX12_voice_33 rfl fp_X12_255 rfl rfl ?_
  refine j_aload0 37 dX12_voice_36 rfl ?_
  refine j_aload0 38 dX12_voice_37 rfl ?_
  refine j_getI 41 dX12_voice_38 rfl fl_X12_261 rfl rfl ?_
  refine j_top (RV_op e0 e1).2.1 ?_
  refine j_iconst 42 (v := nI 0) dX12_voice_41 rfl rfl ?_
  refine j_vi2f 45 dX12_voice_42 rfl rfl cl_X12_146 rfl rfl (c_of _ hh 0 h8 (by decide)) ?_
  refine j_top (RV_op e0 e1).2.2.1 ?_
  refine j_istore4 47 dX12_voice_45 rfl rfl rfl ?_
  refine j_iload2 48 dX12_voice_47 rfl ?_
  refine j_if_ne 61 51 dX12_voice_48 rfl rfl (fun h48 => ?_) (fun h48 => absurd h48 (by decide))
  refine j_iload2 62 dX12_voice_61 rfl ?_
  refine j_iconst 63 (v := 1) dX12_voice_62 rfl rfl ?_
  refine j_cmp_ne 76 66 dX12_voice_63 rfl rfl (fun h63 => ?_) (fun h63 => absurd h63 (by decide))
  refine j_iload2 77 dX12_voice_76 rfl ?_
  refine j_iconst 78 (v := 2) dX12_voice_77 rfl rfl ?_
  refine j_cmp_ne 91 81 dX12_voice_78 rfl rfl (fun h78 => absurd h78 (by decide)) (fun h78 => ?_)
  refine j_aload0 82 dX12_voice_81 rfl ?_
  refine j_iload4 84 dX12_voice_82 rfl ?_
  refine j_iload3 85 dX12_voice_84 rfl ?_
  refine j_vi2f 88 dX12_voice_85 rfl rfl cl_X12_270 rfl rfl (rd_3 _ 0 hh 3 x mk h8 (RV_op e0 e1) (by decide)) ?_
  refine j_goto 98 dX12_voice_88 rfl ?_
  refine j_iret dX12_voice_98 rfl ?_
  exact ⟨rfl, rfl⟩
set_option maxRecDepth 100000 in
theorem o_voice_3_3 (m : Mem) (hh : Nat) (x : Int32) (h8 : hh < 8) (ek : m 12 hh = nI 3) (h1 : 0 ≤ nI hh ∧ nI hh < m 9 9 ∧ nI hh < 8) : JM l g 10 mX11_voice [rf g 0, .int (nI hh), .int (nI 3), .int x] m (RF (some (.int (((x + (nI hh)) * 2) ^^^ (-(x - (m 13 hh)))))) (pC [13, 11, 10, 40, 12] 0 (opC m (nI hh) (m 13 hh)))) := by
  refine JM_of (ls := [some (rf g 0), some (.int (nI hh)), some (.int (nI 3)), some (.int x), none]) pn_X11 rfl rfl ?_
  refine j_aload0 1 dX11_voice_0 rfl ?_
  refine j_iload1 2 dX11_voice_1 rfl ?_
  refine j_vi1f 5 dX11_voice_2 rfl rfl cl_X11_124 rfl rfl (c_isHeir m _) ?_
  refine j_if_eq_bz 17 8 dX11_voice_5 rfl rfl (fun h5 => absurd h1 h5) (fun h5 => ?_)
  refine j_iload2 9 dX11_voice_8 rfl ?_
  refine j_iconst 10 (v := 0) dX11_voice_9 rfl rfl ?_
  refine j_iconst 11 (v := 3) dX11_voice_10 rfl rfl ?_
  refine j_st3f 14 dX11_voice_11 rfl rfl cl_X11_86 rfl (c_within m _ 0 3) ?_
  refine j_if_ne_bz 24 17 dX11_voice_14 rfl rfl (fun h14 => ?_) (fun h14 => absurd (by decide) h14)
  refine j_aload0 25 dX11_voice_24 rfl ?_
  refine j_getR 28 dX11_voice_25 rfl fl_X11_35 rfl rfl ?_
  refine j_iload1 29 dX11_voice_28 rfl ?_
  refine j_vi1f 32 dX11_voice_29 rfl rfl cl_X11_253 rfl rfl (c_kindOf_9 m hh 3 h8 (by decide) ek) ?_
  refine j_astore4 34 dX11_voice_32 rfl rfl rfl ?_
  refine j_aload0 35 dX11_voice_34 rfl ?_
  refine j_getR 38 dX11_voice_35 rfl fl_X11_58 rfl rfl ?_
  refine j_iload1 39 dX11_voice_38 rfl ?_
  refine j_aload0 40 dX11_voice_39 rfl ?_
  refine j_getR 43 dX11_voice_40 rfl fl_X11_35 rfl rfl ?_
  refine j_getR 46 dX11_voice_43 rfl fl_X11_130 rfl rfl ?_
  refine j_iload1 47 dX11_voice_46 rfl ?_
  refine j_iald 48 _ rfl h8 dX11_voice_47 rfl rfl ?_
  refine j_vi2v 51 dX11_voice_48 rfl rfl cl_X11_257 rfl rfl (c_open m (nI hh) (m 13 hh)) ?_
  refine j_iload2 52 dX11_voice_51 rfl ?_
  refine j_tabOut 113 dX11_voice_52 (by decide) rfl ?_
  refine j_aload4 115 dX11_voice_113 rfl ?_
  refine j_aload0 116 dX11_voice_115 rfl ?_
  refine j_getR 119 dX11_voice_116 rfl fl_X11_58 rfl rfl ?_
  refine j_iload3 120 dX11_voice_119 rfl ?_
  refine j_dy2f 123 dX11_voice_120 rfl rfl cu_X11_270_X0 rfl rfl (vt0_5 _ 0 x (nI hh) (m 13 hh) VS_op (by decide)) ?_
  refine j_iret dX11_voice_123 rfl ?_
  exact ⟨rfl, rfl⟩
set_option maxRecDepth 100000 in
theorem p_voice_3_3 (m : Mem) (hh : Nat) (x mk : Int32) (h8 : hh < 8) (e0 : hf (m 69) hh 0 = nI 3) (e1 : hf (m 69) hh 1 = mk) (h1 : 0 ≤ nI hh ∧ nI hh ≤ m 69 0 - 1) : JM l g 11 mX12_voice [rf g 68, .int (nI hh), .int (nI 3), .int x] m (RF (some (.int (((x + (nI hh)) * 2) ^^^ (-(x - mk))))) (pM [13, 11, 10, 40, 12] 0 (opM m (nI hh)))) := by
  refine JM_of (ls := [some (rf g 68), some (.int (nI hh)), some (.int (nI 3)), some (.int x), none]) pn_X12 rfl rfl ?_
  refine j_aload0 1 dX12_voice_0 rfl ?_
  refine j_iload1 2 dX12_voice_1 rfl ?_
  refine j_vi1f 5 dX12_voice_2 rfl rfl cl_X12_199 rfl rfl (c_misHeir m _) ?_
  refine j_if_eq_bz 20 8 dX12_voice_5 rfl rfl (fun h5 => absurd h1 h5) (fun h5 => ?_)
  refine j_iload2 9 dX12_voice_8 rfl ?_
  refine j_i2l 10 dX12_voice_9 rfl ?_
  refine j_lconst 11 (v := 0) dX12_voice_10 rfl rfl ?_
  refine j_ldc2 14 dX12_voice_11 rfl kl_X12_182 ?_
  refine j_st3f 17 dX12_voice_14 rfl rfl cl_X12_47 rfl (c_in m _ 0 3) ?_
  refine j_if_ne_bz 26 20 dX12_voice_17 rfl rfl (fun h17 => ?_) (fun h17 => absurd (by decide) h17)
  refine j_aload0 27 dX12_voice_26 rfl ?_
  refine j_iload1 28 dX12_voice_27 rfl ?_
  refine j_putI 31 dX12_voice_28 rfl fp_X12_261 rfl rfl ?_
  refine j_aload0 32 dX12_voice_31 rfl ?_
  refine j_iconst 33 (v := 0) dX12_voice_32 rfl rfl ?_
  refine j_putI 36 dX12_voice_33 rfl fp_X12_255 rfl rfl ?_
  refine j_aload0 37 dX12_voice_36 rfl ?_
  refine j_aload0 38 dX12_voice_37 rfl ?_
  refine j_getI 41 dX12_voice_38 rfl fl_X12_261 rfl rfl ?_
  refine j_top (RV_op e0 e1).2.1 ?_
  refine j_iconst 42 (v := nI 0) dX12_voice_41 rfl rfl ?_
  refine j_vi2f 45 dX12_voice_42 rfl rfl cl_X12_146 rfl rfl (c_of _ hh 0 h8 (by decide)) ?_
  refine j_top (RV_op e0 e1).2.2.1 ?_
  refine j_istore4 47 dX12_voice_45 rfl rfl rfl ?_
  refine j_iload2 48 dX12_voice_47 rfl ?_
  refine j_if_ne 61 51 dX12_voice_48 rfl rfl (fun h48 => ?_) (fun h48 => absurd h48 (by decide))
  refine j_iload2 62 dX12_voice_61 rfl ?_
  refine j_iconst 63 (v := 1) dX12_voice_62 rfl rfl ?_
  refine j_cmp_ne 76 66 dX12_voice_63 rfl rfl (fun h63 => ?_) (fun h63 => absurd h63 (by decide))
  refine j_iload2 77 dX12_voice_76 rfl ?_
  refine j_iconst 78 (v := 2) dX12_voice_77 rfl rfl ?_
  refine j_cmp_ne 91 81 dX12_voice_78 rfl rfl (fun h78 => ?_) (fun h78 => absurd h78 (by decide))
  refine j_aload0 92 dX12_voice_91 rfl ?_
  refine j_iload4 94 dX12_voice_92 rfl ?_
  refine j_iload3 95 dX12_voice_94 rfl ?_
  refine j_vi2f 98 dX12_voice_95 rfl rfl cl_X12_273 rfl rfl (rt_3_3 _ 0 hh x mk h8 (RV_op e0 e1) (by decide)) ?_
  refine j_iret dX12_voice_98 rfl ?_
  exact ⟨rfl, rfl⟩
set_option maxRecDepth 100000 in
theorem o_voice_4_0 (m : Mem) (hh : Nat) (x : Int32) (h8 : hh < 8) (ek : m 12 hh = nI 4) (h1 : 0 ≤ nI hh ∧ nI hh < m 9 9 ∧ nI hh < 8) : JM l g 10 mX11_voice [rf g 0, .int (nI hh), .int (nI 0), .int x] m (RF (some (.int ((x + (nI hh)) * 3))) (pC [20, 10] 0 (opC m (nI hh) (m 13 hh)))) := by
  refine JM_of (ls := [some (rf g 0), some (.int (nI hh)), some (.int (nI 0)), some (.int x), none]) pn_X11 rfl rfl ?_
  refine j_aload0 1 dX11_voice_0 rfl ?_
  refine j_iload1 2 dX11_voice_1 rfl ?_
  refine j_vi1f 5 dX11_voice_2 rfl rfl cl_X11_124 rfl rfl (c_isHeir m _) ?_
  refine j_if_eq_bz 17 8 dX11_voice_5 rfl rfl (fun h5 => absurd h1 h5) (fun h5 => ?_)
  refine j_iload2 9 dX11_voice_8 rfl ?_
  refine j_iconst 10 (v := 0) dX11_voice_9 rfl rfl ?_
  refine j_iconst 11 (v := 3) dX11_voice_10 rfl rfl ?_
  refine j_st3f 14 dX11_voice_11 rfl rfl cl_X11_86 rfl (c_within m _ 0 3) ?_
  refine j_if_ne_bz 24 17 dX11_voice_14 rfl rfl (fun h14 => ?_) (fun h14 => absurd (by decide) h14)
  refine j_aload0 25 dX11_voice_24 rfl ?_
  refine j_getR 28 dX11_voice_25 rfl fl_X11_35 rfl rfl ?_
  refine j_iload1 29 dX11_voice_28 rfl ?_
  refine j_vi1f 32 dX11_voice_29 rfl rfl cl_X11_253 rfl rfl (c_kindOf_9 m hh 4 h8 (by decide) ek) ?_
  refine j_astore4 34 dX11_voice_32 rfl rfl rfl ?_
  refine j_aload0 35 dX11_voice_34 rfl ?_
  refine j_getR 38 dX11_voice_35 rfl fl_X11_58 rfl rfl ?_
  refine j_iload1 39 dX11_voice_38 rfl ?_
  refine j_aload0 40 dX11_voice_39 rfl ?_
  refine j_getR 43 dX11_voice_40 rfl fl_X11_35 rfl rfl ?_
  refine j_getR 46 dX11_voice_43 rfl fl_X11_130 rfl rfl ?_
  refine j_iload1 47 dX11_voice_46 rfl ?_
  refine j_iald 48 _ rfl h8 dX11_voice_47 rfl rfl ?_
  refine j_vi2v 51 dX11_voice_48 rfl rfl cl_X11_257 rfl rfl (c_open m (nI hh) (m 13 hh)) ?_
  refine j_iload2 52 dX11_voice_51 rfl ?_
  refine j_tabIn 80 dX11_voice_52 (by decide) (by decide) rfl rfl ?_
  refine j_aload4 82 dX11_voice_80 rfl ?_
  refine j_aload0 83 dX11_voice_82 rfl ?_
  refine j_getR 86 dX11_voice_83 rfl fl_X11_58 rfl rfl ?_
  refine j_iload3 87 dX11_voice_86 rfl ?_
  refine j_dy2f 90 dX11_voice_87 rfl rfl cu_X11_260_X3 rfl rfl (vl1_6 _ 0 x (nI hh) (m 13 hh) VS_op (by decide)) ?_
  refine j_iret dX11_voice_90 rfl ?_
  exact ⟨rfl, rfl⟩
set_option maxRecDepth 100000 in
theorem p_voice_4_0 (m : Mem) (hh : Nat) (x mk : Int32) (h8 : hh < 8) (e0 : hf (m 69) hh 0 = nI 4) (e1 : hf (m 69) hh 1 = mk) (h1 : 0 ≤ nI hh ∧ nI hh ≤ m 69 0 - 1) : JM l g 11 mX12_voice [rf g 68, .int (nI hh), .int (nI 0), .int x] m (RF (some (.int ((x + (nI hh)) * 3))) (pM [20, 10] 0 (opM m (nI hh)))) := by
  refine JM_of (ls := [some (rf g 68), some (.int (nI hh)), some (.int (nI 0)), some (.int x), none]) pn_X12 rfl rfl ?_
  refine j_aload0 1 dX12_voice_0 rfl ?_
  refine j_iload1 2 dX12_voice_1 rfl ?_
  refine j_vi1f 5 dX12_voice_2 rfl rfl cl_X12_199 rfl rfl (c_misHeir m _) ?_
  refine j_if_eq_bz 20 8 dX12_voice_5 rfl rfl (fun h5 => absurd h1 h5) (fun h5 => ?_)
  refine j_iload2 9 dX12_voice_8 rfl ?_
  refine j_i2l 10 dX12_voice_9 rfl ?_
  refine j_lconst 11 (v := 0) dX12_voice_10 rfl rfl ?_
  refine j_ldc2 14 dX12_voice_11 rfl kl_X12_182 ?_
  refine j_st3f 17 dX12_voice_14 rfl rfl cl_X12_47 rfl (c_in m _ 0 3) ?_
  refine j_if_ne_bz 26 20 dX12_voice_17 rfl rfl (fun h17 => ?_) (fun h17 => absurd (by decide) h17)
  refine j_aload0 27 dX12_voice_26 rfl ?_
  refine j_iload1 28 dX12_voice_27 rfl ?_
  refine j_putI 31 dX12_voice_28 rfl fp_X12_261 rfl rfl ?_
  refine j_aload0 32 dX12_voice_31 rfl ?_
  refine j_iconst 33 (v := 0) dX12_voice_32 rfl rfl ?_
  refine j_putI 36 dX12_voice_33 rfl fp_X12_255 rfl rfl ?_
  refine j_aload0 37 dX12_voice_36 rfl ?_
  refine j_aload0 38 dX12_voice_37 rfl ?_
  refine j_getI 41 dX12_voice_38 rfl fl_X12_261 rfl rfl ?_
  refine j_top (RV_op e0 e1).2.1 ?_
  refine j_iconst 42 (v := nI 0) dX12_voice_41 rfl rfl ?_
  refine j_vi2f 45 dX12_voice_42 rfl rfl cl_X12_146 rfl rfl (c_of _ hh 0 h8 (by decide)) ?_
  refine j_top (RV_op e0 e1).2.2.1 ?_
  refine j_istore4 47 dX12_voice_45 rfl rfl rfl ?_
  refine j_iload2 48 dX12_voice_47 rfl ?_
  refine j_if_ne 61 51 dX12_voice_48 rfl rfl (fun h48 => absurd h48 (by decide)) (fun h48 => ?_)
  refine j_aload0 52 dX12_voice_51 rfl ?_
  refine j_iload4 54 dX12_voice_52 rfl ?_
  refine j_iload3 55 dX12_voice_54 rfl ?_
  refine j_vi2f 58 dX12_voice_55 rfl rfl cl_X12_264 rfl rfl (rl_4 _ 0 hh 4 x mk h8 (RV_op e0 e1) (by decide)) ?_
  refine j_goto 98 dX12_voice_58 rfl ?_
  refine j_iret dX12_voice_98 rfl ?_
  exact ⟨rfl, rfl⟩
set_option maxRecDepth 100000 in
theorem o_voice_4_1 (m : Mem) (hh : Nat) (x : Int32) (h8 : hh < 8) (ek : m 12 hh = nI 4) (h1 : 0 ≤ nI hh ∧ nI hh < m 9 9 ∧ nI hh < 8) : JM l g 10 mX11_voice [rf g 0, .int (nI hh), .int (nI 1), .int x] m (RF (some (.int (((x + (nI hh)) * 3) * 2))) (pC [11, 20, 10] 0 (opC m (nI hh) (m 13 hh)))) := by
  refine JM_of (ls := [some (rf g 0), some (.int (nI hh)), some (.int (nI 1)), some (.int x), none]) pn_X11 rfl rfl ?_
  refine j_aload0 1 dX11_voice_0 rfl ?_
  refine j_iload1 2 dX11_voice_1 rfl ?_
  refine j_vi1f 5 dX11_voice_2 rfl rfl cl_X11_124 rfl rfl (c_isHeir m _) ?_
  refine j_if_eq_bz 17 8 dX11_voice_5 rfl rfl (fun h5 => absurd h1 h5) (fun h5 => ?_)
  refine j_iload2 9 dX11_voice_8 rfl ?_
  refine j_iconst 10 (v := 0) dX11_voice_9 rfl rfl ?_
  refine j_iconst 11 (v := 3) dX11_voice_10 rfl rfl ?_
  refine j_st3f 14 dX11_voice_11 rfl rfl cl_X11_86 rfl (c_within m _ 0 3) ?_
  refine j_if_ne_bz 24 17 dX11_voice_14 rfl rfl (fun h14 => ?_) (fun h14 => absurd (by decide) h14)
  refine j_aload0 25 dX11_voice_24 rfl ?_
  refine j_getR 28 dX11_voice_25 rfl fl_X11_35 rfl rfl ?_
  refine j_iload1 29 dX11_voice_28 rfl ?_
  refine j_vi1f 32 dX11_voice_29 rfl rfl cl_X11_253 rfl rfl (c_kindOf_9 m hh 4 h8 (by decide) ek) ?_
  refine j_astore4 34 dX11_voice_32 rfl rfl rfl ?_
  refine j_aload0 35 dX11_voice_34 rfl ?_
  refine j_getR 38 dX11_voice_35 rfl fl_X11_58 rfl rfl ?_
  refine j_iload1 39 dX11_voice_38 rfl ?_
  refine j_aload0 40 dX11_voice_39 rfl ?_
  refine j_getR 43 dX11_voice_40 rfl fl_X11_35 rfl rfl ?_
  refine j_getR 46 dX11_voice_43 rfl fl_X11_130 rfl rfl ?_
  refine j_iload1 47 dX11_voice_46 rfl ?_
  refine j_iald 48 _ rfl h8 dX11_voice_47 rfl rfl ?_
  refine j_vi2v 51 dX11_voice_48 rfl rfl cl_X11_257 rfl rfl (c_open m (nI hh) (m 13 hh)) ?_
  refine j_iload2 52 dX11_voice_51 rfl ?_
  refine j_tabIn 91 dX11_voice_52 (by decide) (by decide) rfl rfl ?_
  refine j_aload4 93 dX11_voice_91 rfl ?_
  refine j_aload0 94 dX11_voice_93 rfl ?_
  refine j_getR 97 dX11_voice_94 rfl fl_X11_58 rfl rfl ?_
  refine j_iload3 98 dX11_voice_97 rfl ?_
  refine j_dy2f 101 dX11_voice_98 rfl rfl cu_X11_264_X3 rfl rfl (vs0_6 _ 0 x (nI hh) (m 13 hh) VS_op (by decide)) ?_
  refine j_iret dX11_voice_101 rfl ?_
  exact ⟨rfl, rfl⟩
set_option maxRecDepth 100000 in
theorem p_voice_4_1 (m : Mem) (hh : Nat) (x mk : Int32) (h8 : hh < 8) (e0 : hf (m 69) hh 0 = nI 4) (e1 : hf (m 69) hh 1 = mk) (h1 : 0 ≤ nI hh ∧ nI hh ≤ m 69 0 - 1) : JM l g 11 mX12_voice [rf g 68, .int (nI hh), .int (nI 1), .int x] m (RF (some (.int (((x + (nI hh)) * 3) * 2))) (pM [11, 20, 10] 0 (opM m (nI hh)))) := by
  refine JM_of (ls := [some (rf g 68), some (.int (nI hh)), some (.int (nI 1)), some (.int x), none]) pn_X12 rfl rfl ?_
  refine j_aload0 1 dX12_voice_0 rfl ?_
  refine j_iload1 2 dX12_voice_1 rfl ?_
  refine j_vi1f 5 dX12_voice_2 rfl rfl cl_X12_199 rfl rfl (c_misHeir m _) ?_
  refine j_if_eq_bz 20 8 dX12_voice_5 rfl rfl (fun h5 => absurd h1 h5) (fun h5 => ?_)
  refine j_iload2 9 dX12_voice_8 rfl ?_
  refine j_i2l 10 dX12_voice_9 rfl ?_
  refine j_lconst 11 (v := 0) dX12_voice_10 rfl rfl ?_
  refine j_ldc2 14 dX12_voice_11 rfl kl_X12_182 ?_
  refine j_st3f 17 dX12_voice_14 rfl rfl cl_X12_47 rfl (c_in m _ 0 3) ?_
  refine j_if_ne_bz 26 20 dX12_voice_17 rfl rfl (fun h17 => ?_) (fun h17 => absurd (by decide) h17)
  refine j_aload0 27 dX12_voice_26 rfl ?_
  refine j_iload1 28 dX12_voice_27 rfl ?_
  refine j_putI 31 dX12_voice_28 rfl fp_X12_261 rfl rfl ?_
  refine j_aload0 32 dX12_voice_31 rfl ?_
  refine j_iconst 33 (v := 0) dX12_voice_32 rfl rfl ?_
  refine j_putI 36 dX12_voice_33 rfl fp_X12_255 rfl rfl ?_
  refine j_aload0 37 dX12_voice_36 rfl ?_
  refine j_aload0 38 dX12_voice_37 rfl ?_
  refine j_getI 41 dX12_voice_38 rfl fl_X12_261 rfl rfl ?_
  refine j_top (RV_op e0 e1).2.1 ?_
  refine j_iconst 42 (v := nI 0) dX12_voice_41 rfl rfl ?_
  refine j_vi2f 45 dX12_voice_42 rfl rfl cl_X12_146 rfl rfl (c_of _ hh 0 h8 (by decide)) ?_
  refine j_top (RV_op e0 e1).2.2.1 ?_
  refine j_istore4 47 dX12_voice_45 rfl rfl rfl ?_
  refine j_iload2 48 dX12_voice_47 rfl ?_
  refine j_if_ne 61 51 dX12_voice_48 rfl rfl (fun h48 => ?_) (fun h48 => absurd h48 (by decide))
  refine j_iload2 62 dX12_voice_61 rfl ?_
  refine j_iconst 63 (v := 1) dX12_voice_62 rfl rfl ?_
  refine j_cmp_ne 76 66 dX12_voice_63 rfl rfl (fun h63 => absurd h63 (by decide)) (fun h63 => ?_)
  refine j_aload0 67 dX12_voice_66 rfl ?_
  refine j_iload4 69 dX12_voice_67 rfl ?_
  refine j_iload3 70 dX12_voice_69 rfl ?_
  refine j_vi2f 73 dX12_voice_70 rfl rfl cl_X12_267 rfl rfl (rs_4_4 _ 0 hh x mk h8 (RV_op e0 e1) (by decide)) ?_
  refine j_goto 98 dX12_voice_73 rfl ?_
  refine j_iret dX12_voice_98 rfl ?_
  exact ⟨rfl, rfl⟩
set_option maxRecDepth 100000 in
theorem o_voice_4_2 (m : Mem) (hh : Nat) (x : Int32) (h8 : hh < 8) (ek : m 12 hh = nI 4) (h1 : 0 ≤ nI hh ∧ nI hh < m 9 9 ∧ nI hh < 8) : JM l g 10 mX11_voice [rf g 0, .int (nI hh), .int (nI 2), .int x] m (RF (some (.int (x - (m 13 hh)))) (pC [12] 0 (opC m (nI hh) (m 13 hh)))) := by
  refine JM_of (ls := [some (rf g 0), some (.int (nI hh)), some (.int (nI 2)), some (.int x), none]) pn_X11 rfl rfl ?_
  refine j_aload0 1 dX11_voice_0 rfl ?_
  refine j_iload1 2 dX11_voice_1 rfl ?_
  refine j_vi1f 5 dX11_voice_2 rfl rfl cl_X11_124 rfl rfl (c_isHeir m _) ?_
  refine j_if_eq_bz 17 8 dX11_voice_5 rfl rfl (fun h5 => absurd h1 h5) (fun h5 => ?_)
  refine j_iload2 9 dX11_voice_8 rfl ?_
  refine j_iconst 10 (v := 0) dX11_voice_9 rfl rfl ?_
  refine j_iconst 11 (v := 3) dX11_voice_10 rfl rfl ?_
  refine j_st3f 14 dX11_voice_11 rfl rfl cl_X11_86 rfl (c_within m _ 0 3) ?_
  refine j_if_ne_bz 24 17 dX11_voice_14 rfl rfl (fun h14 => ?_) (fun h14 => absurd (by decide) h14)
  refine j_aload0 25 dX11_voice_24 rfl ?_
  refine j_getR 28 dX11_voice_25 rfl fl_X11_35 rfl rfl ?_
  refine j_iload1 29 dX11_voice_28 rfl ?_
  refine j_vi1f 32 dX11_voice_29 rfl rfl cl_X11_253 rfl rfl (c_kindOf_9 m hh 4 h8 (by decide) ek) ?_
  refine j_astore4 34 dX11_voice_32 rfl rfl rfl ?_
  refine j_aload0 35 dX11_voice_34 rfl ?_
  refine j_getR 38 dX11_voice_35 rfl fl_X11_58 rfl rfl ?_
  refine j_iload1 39 dX11_voice_38 rfl ?_
  refine j_aload0 40 dX11_voice_39 rfl ?_
  refine j_getR 43 dX11_voice_40 rfl fl_X11_35 rfl rfl ?_
  refine j_getR 46 dX11_voice_43 rfl fl_X11_130 rfl rfl ?_
  refine j_iload1 47 dX11_voice_46 rfl ?_
  refine j_iald 48 _ rfl h8 dX11_voice_47 rfl rfl ?_
  refine j_vi2v 51 dX11_voice_48 rfl rfl cl_X11_257 rfl rfl (c_open m (nI hh) (m 13 hh)) ?_
  refine j_iload2 52 dX11_voice_51 rfl ?_
  refine j_tabIn 102 dX11_voice_52 (by decide) (by decide) rfl rfl ?_
  refine j_aload4 104 dX11_voice_102 rfl ?_
  refine j_aload0 105 dX11_voice_104 rfl ?_
  refine j_getR 108 dX11_voice_105 rfl fl_X11_58 rfl rfl ?_
  refine j_iload3 109 dX11_voice_108 rfl ?_
  refine j_dy2f 112 dX11_voice_109 rfl rfl cu_X11_267_X3 rfl rfl (vd0_6 _ 0 x (nI hh) (m 13 hh) VS_op (by decide)) ?_
  refine j_iret dX11_voice_112 rfl ?_
  exact ⟨rfl, rfl⟩
set_option maxRecDepth 100000 in
theorem p_voice_4_2 (m : Mem) (hh : Nat) (x mk : Int32) (h8 : hh < 8) (e0 : hf (m 69) hh 0 = nI 4) (e1 : hf (m 69) hh 1 = mk) (h1 : 0 ≤ nI hh ∧ nI hh ≤ m 69 0 - 1) : JM l g 11 mX12_voice [rf g 68, .int (nI hh), .int (nI 2), .int x] m (RF (some (.int (x - mk))) (pM [12] 0 (opM m (nI hh)))) := by
  refine JM_of (ls := [some (rf g 68), some (.int (nI hh)), some (.int (nI 2)), some (.int x), none]) pn_X12 rfl rfl ?_
  refine j_aload0 1 dX12_voice_0 rfl ?_
  refine j_iload1 2 dX12_voice_1 rfl ?_
  refine j_vi1f 5 dX12_voice_2 rfl rfl cl_X12_199 rfl rfl (c_misHeir m _) ?_
  refine j_if_eq_bz 20 8 dX12_voice_5 rfl rfl (fun h5 => absurd h1 h5) (fun h5 => ?_)
  refine j_iload2 9 dX12_voice_8 rfl ?_
  refine j_i2l 10 dX12_voice_9 rfl ?_
  refine j_lconst 11 (v := 0) dX12_voice_10 rfl rfl ?_
  refine j_ldc2 14 dX12_voice_11 rfl kl_X12_182 ?_
  refine j_st3f 17 dX12_voice_14 rfl rfl cl_X12_47 rfl (c_in m _ 0 3) ?_
  refine j_if_ne_bz 26 20 dX12_voice_17 rfl rfl (fun h17 => ?_) (fun h17 => absurd (by decide) h17)
  refine j_aload0 27 dX12_voice_26 rfl ?_
  refine j_iload1 28 dX12_voice_27 rfl ?_
  refine j_putI 31 dX12_voice_28 rfl fp_X12_261 rfl rfl ?_
  refine j_aload0 32 dX12_voice_31 rfl ?_
  refine j_iconst 33 (v := 0) dX12_voice_32 rfl rfl ?_
  refine j_putI 36 dX12_voice_33 rfl fp_X12_255 rfl rfl ?_
  refine j_aload0 37 dX12_voice_36 rfl ?_
  refine j_aload0 38 dX12_voice_37 rfl ?_
  refine j_getI 41 dX12_voice_38 rfl fl_X12_261 rfl rfl ?_
  refine j_top (RV_op e0 e1).2.1 ?_
  refine j_iconst 42 (v := nI 0) dX12_voice_41 rfl rfl ?_
  refine j_vi2f 45 dX12_voice_42 rfl rfl cl_X12_146 rfl rfl (c_of _ hh 0 h8 (by decide)) ?_
  refine j_top (RV_op e0 e1).2.2.1 ?_
  refine j_istore4 47 dX12_voice_45 rfl rfl rfl ?_
  refine j_iload2 48 dX12_voice_47 rfl ?_
  refine j_if_ne 61 51 dX12_voice_48 rfl rfl (fun h48 => ?_) (fun h48 => absurd h48 (by decide))
  refine j_iload2 62 dX12_voice_61 rfl ?_
  refine j_iconst 63 (v := 1) dX12_voice_62 rfl rfl ?_
  refine j_cmp_ne 76 66 dX12_voice_63 rfl rfl (fun h63 => ?_) (fun h63 => absurd h63 (by decide))
  refine j_iload2 77 dX12_voice_76 rfl ?_
  refine j_iconst 78 (v := 2) dX12_voice_77 rfl rfl ?_
  refine j_cmp_ne 91 81 dX12_voice_78 rfl rfl (fun h78 => absurd h78 (by decide)) (fun h78 => ?_)
  refine j_aload0 82 dX12_voice_81 rfl ?_
  refine j_iload4 84 dX12_voice_82 rfl ?_
  refine j_iload3 85 dX12_voice_84 rfl ?_
  refine j_vi2f 88 dX12_voice_85 rfl rfl cl_X12_270 rfl rfl (rd_4 _ 0 hh 4 x mk h8 (RV_op e0 e1) (by decide)) ?_
  refine j_goto 98 dX12_voice_88 rfl ?_
  refine j_iret dX12_voice_98 rfl ?_
  exact ⟨rfl, rfl⟩
set_option maxRecDepth 100000 in
theorem o_voice_4_3 (m : Mem) (hh : Nat) (x : Int32) (h8 : hh < 8) (ek : m 12 hh = nI 4) (h1 : 0 ≤ nI hh ∧ nI hh < m 9 9 ∧ nI hh < 8) : JM l g 10 mX11_voice [rf g 0, .int (nI hh), .int (nI 3), .int x] m (RF (some (.int (((((x + (nI hh)) * 3) * 2) ^^^ (x - (m 13 hh))) - ((2 + (nI hh)) * 3)))) (pC [50, 13, 11, 20, 10, 12, 20, 10] 0 (opC m (nI hh) (m 13 hh)))) := by
  refine JM_of (ls := [some (rf g 0), some (.int (nI hh)), some (.int (nI 3)), some (.int x), none]) pn_X11 rfl rfl ?_
  refine j_aload0 1 dX11_voice_0 rfl ?_
  refine j_iload1 2 dX11_voice_1 rfl ?_
  refine j_vi1f 5 dX11_voice_2 rfl rfl cl_X11_124 rfl rfl (c_isHeir m _) ?_
  refine j_if_eq_bz 17 8 dX11_voice_5 rfl rfl (fun h5 => absurd h1 h5) (fun h5 => ?_)
  refine j_iload2 9 dX11_voice_8 rfl ?_
  refine j_iconst 10 (v := 0) dX11_voice_9 rfl rfl ?_
  refine j_iconst 11 (v := 3) dX11_voice_10 rfl rfl ?_
  refine j_st3f 14 dX11_voice_11 rfl rfl cl_X11_86 rfl (c_within m _ 0 3) ?_
  refine j_if_ne_bz 24 17 dX11_voice_14 rfl rfl (fun h14 => ?_) (fun h14 => absurd (by decide) h14)
  refine j_aload0 25 dX11_voice_24 rfl ?_
  refine j_getR 28 dX11_voice_25 rfl fl_X11_35 rfl rfl ?_
  refine j_iload1 29 dX11_voice_28 rfl ?_
  refine j_vi1f 32 dX11_voice_29 rfl rfl cl_X11_253 rfl rfl (c_kindOf_9 m hh 4 h8 (by decide) ek) ?_
  refine j_astore4 34 dX11_voice_32 rfl rfl rfl ?_
  refine j_aload0 35 dX11_voice_34 rfl ?_
  refine j_getR 38 dX11_voice_35 rfl fl_X11_58 rfl rfl ?_
  refine j_iload1 39 dX11_voice_38 rfl ?_
  refine j_aload0 40 dX11_voice_39 rfl ?_
  refine j_getR 43 dX11_voice_40 rfl fl_X11_35 rfl rfl ?_
  refine j_getR 46 dX11_voice_43 rfl fl_X11_130 rfl rfl ?_
  refine j_iload1 47 dX11_voice_46 rfl ?_
  refine j_iald 48 _ rfl h8 dX11_voice_47 rfl rfl ?_
  refine j_vi2v 51 dX11_voice_48 rfl rfl cl_X11_257 rfl rfl (c_open m (nI hh) (m 13 hh)) ?_
  refine j_iload2 52 dX11_voice_51 rfl ?_
  refine j_tabOut 113 dX11_voice_52 (by decide) rfl ?_
  refine j_aload4 115 dX11_voice_113 rfl ?_
  refine j_aload0 116 dX11_voice_115 rfl ?_
  refine j_getR 119 dX11_voice_116 rfl fl_X11_58 rfl rfl ?_
  refine j_iload3 120 dX11_voice_119 rfl ?_
  refine j_dy2f 123 dX11_voice_120 rfl rfl cu_X11_270_X3 rfl rfl (vt1_6 _ 0 x (nI hh) (m 13 hh) VS_op (by decide)) ?_
  refine j_iret dX11_voice_123 rfl ?_
  exact ⟨rfl, rfl⟩
set_option maxRecDepth 100000 in
theorem p_voice_4_3 (m : Mem) (hh : Nat) (x mk : Int32) (h8 : hh < 8) (e0 : hf (m 69) hh 0 = nI 4) (e1 : hf (m 69) hh 1 = mk) (h1 : 0 ≤ nI hh ∧ nI hh ≤ m 69 0 - 1) : JM l g 11 mX12_voice [rf g 68, .int (nI hh), .int (nI 3), .int x] m (RF (some (.int (((((x + (nI hh)) * 3) * 2) ^^^ (x - mk)) - ((2 + (nI hh)) * 3)))) (pM [50, 13, 11, 20, 10, 12, 20, 10] 0 (opM m (nI hh)))) := by
  refine JM_of (ls := [some (rf g 68), some (.int (nI hh)), some (.int (nI 3)), some (.int x), none]) pn_X12 rfl rfl ?_
  refine j_aload0 1 dX12_voice_0 rfl ?_
  refine j_iload1 2 dX12_voice_1 rfl ?_
  refine j_vi1f 5 dX12_voice_2 rfl rfl cl_X12_199 rfl rfl (c_misHeir m _) ?_
  refine j_if_eq_bz 20 8 dX12_voice_5 rfl rfl (fun h5 => absurd h1 h5) (fun h5 => ?_)
  refine j_iload2 9 dX12_voice_8 rfl ?_
  refine j_i2l 10 dX12_voice_9 rfl ?_
  refine j_lconst 11 (v := 0) dX12_voice_10 rfl rfl ?_
  refine j_ldc2 14 dX12_voice_11 rfl kl_X12_182 ?_
  refine j_st3f 17 dX12_voice_14 rfl rfl cl_X12_47 rfl (c_in m _ 0 3) ?_
  refine j_if_ne_bz 26 20 dX12_voice_17 rfl rfl (fun h17 => ?_) (fun h17 => absurd (by decide) h17)
  refine j_aload0 27 dX12_voice_26 rfl ?_
  refine j_iload1 28 dX12_voice_27 rfl ?_
  refine j_putI 31 dX12_voice_28 rfl fp_X12_261 rfl rfl ?_
  refine j_aload0 32 dX12_voice_31 rfl ?_
  refine j_iconst 33 (v := 0) dX12_voice_32 rfl rfl ?_
  refine j_putI 36 dX12_voice_33 rfl fp_X12_255 rfl rfl ?_
  refine j_aload0 37 dX12_voice_36 rfl ?_
  refine j_aload0 38 dX12_voice_37 rfl ?_
  refine j_getI 41 dX12_voice_38 rfl fl_X12_261 rfl rfl ?_
  refine j_top (RV_op e0 e1).2.1 ?_
  refine j_iconst 42 (v := nI 0) dX12_voice_41 rfl rfl ?_
  refine j_vi2f 45 dX12_voice_42 rfl rfl cl_X12_146 rfl rfl (c_of _ hh 0 h8 (by decide)) ?_
  refine j_top (RV_op e0 e1).2.2.1 ?_
  refine j_istore4 47 dX12_voice_45 rfl rfl rfl ?_
  refine j_iload2 48 dX12_voice_47 rfl ?_
  refine j_if_ne 61 51 dX12_voice_48 rfl rfl (fun h48 => ?_) (fun h48 => absurd h48 (by decide))
  refine j_iload2 62 dX12_voice_61 rfl ?_
  refine j_iconst 63 (v := 1) dX12_voice_62 rfl rfl ?_
  refine j_cmp_ne 76 66 dX12_voice_63 rfl rfl (fun h63 => ?_) (fun h63 => absurd h63 (by decide))
  refine j_iload2 77 dX12_voice_76 rfl ?_
  refine j_iconst 78 (v := 2) dX12_voice_77 rfl rfl ?_
  refine j_cmp_ne 91 81 dX12_voice_78 rfl rfl (fun h78 => ?_) (fun h78 => absurd h78 (by decide))
  refine j_aload0 92 dX12_voice_91 rfl ?_
  refine j_iload4 94 dX12_voice_92 rfl ?_
  refine j_iload3 95 dX12_voice_94 rfl ?_
  refine j_vi2f 98 dX12_voice_95 rfl rfl cl_X12_273 rfl rfl (rt_4_4 _ 0 hh x mk h8 (RV_op e0 e1) (by decide)) ?_
  refine j_iret dX12_voice_98 rfl ?_
  exact ⟨rfl, rfl⟩
set_option maxRecDepth 100000 in
theorem o_voice_5_0 (m : Mem) (hh : Nat) (x : Int32) (h8 : hh < 8) (ek : m 12 hh = nI 5) (h1 : 0 ≤ nI hh ∧ nI hh < m 9 9 ∧ nI hh < 8) : JM l g 10 mX11_voice [rf g 0, .int (nI hh), .int (nI 0), .int x] m (RF (some (.int (x + (nI hh)))) (pC [10] 0 (opC m (nI hh) (m 13 hh)))) := by
  refine JM_of (ls := [some (rf g 0), some (.int (nI hh)), some (.int (nI 0)), some (.int x), none]) pn_X11 rfl rfl ?_
  refine j_aload0 1 dX11_voice_0 rfl ?_
  refine j_iload1 2 dX11_voice_1 rfl ?_
  refine j_vi1f 5 dX11_voice_2 rfl rfl cl_X11_124 rfl rfl (c_isHeir m _) ?_
  refine j_if_eq_bz 17 8 dX11_voice_5 rfl rfl (fun h5 => absurd h1 h5) (fun h5 => ?_)
  refine j_iload2 9 dX11_voice_8 rfl ?_
  refine j_iconst 10 (v := 0) dX11_voice_9 rfl rfl ?_
  refine j_iconst 11 (v := 3) dX11_voice_10 rfl rfl ?_
  refine j_st3f 14 dX11_voice_11 rfl rfl cl_X11_86 rfl (c_within m _ 0 3) ?_
  refine j_if_ne_bz 24 17 dX11_voice_14 rfl rfl (fun h14 => ?_) (fun h14 => absurd (by decide) h14)
  refine j_aload0 25 dX11_voice_24 rfl ?_
  refine j_getR 28 dX11_voice_25 rfl fl_X11_35 rfl rfl ?_
  refine j_iload1 29 dX11_voice_28 rfl ?_
  refine j_vi1f 32 dX11_voice_29 rfl rfl cl_X11_253 rfl rfl (c_kindOf_9 m hh 5 h8 (by decide) ek) ?_
  refine j_astore4 34 dX11_voice_32 rfl rfl rfl ?_
  refine j_aload0 35 dX11_voice_34 rfl ?_
  refine j_getR 38 dX11_voice_35 rfl fl_X11_58 rfl rfl ?_
  refine j_iload1 39 dX11_voice_38 rfl ?_
  refine j_aload0 40 dX11_voice_39 rfl ?_
  refine j_getR 43 dX11_voice_40 rfl fl_X11_35 rfl rfl ?_
  refine j_getR 46 dX11_voice_43 rfl fl_X11_130 rfl rfl ?_
  refine j_iload1 47 dX11_voice_46 rfl ?_
  refine j_iald 48 _ rfl h8 dX11_voice_47 rfl rfl ?_
  refine j_vi2v 51 dX11_voice_48 rfl rfl cl_X11_257 rfl rfl (c_open m (nI hh) (m 13 hh)) ?_
  refine j_iload2 52 dX11_voice_51 rfl ?_
  refine j_tabIn 80 dX11_voice_52 (by decide) (by decide) rfl rfl ?_
  refine j_aload4 82 dX11_voice_80 rfl ?_
  refine j_aload0 83 dX11_voice_82 rfl ?_
  refine j_getR 86 dX11_voice_83 rfl fl_X11_58 rfl rfl ?_
  refine j_iload3 87 dX11_voice_86 rfl ?_
  refine j_dy2f 90 dX11_voice_87 rfl rfl cu_X11_260_X2 rfl rfl (vl0_7 _ 0 x (nI hh) (m 13 hh) VS_op (by decide)) ?_
  refine j_iret dX11_voice_90 rfl ?_
  exact ⟨rfl, rfl⟩
set_option maxRecDepth 100000 in
theorem p_voice_5_0 (m : Mem) (hh : Nat) (x mk : Int32) (h8 : hh < 8) (e0 : hf (m 69) hh 0 = nI 5) (e1 : hf (m 69) hh 1 = mk) (h1 : 0 ≤ nI hh ∧ nI hh ≤ m 69 0 - 1) : JM l g 11 mX12_voice [rf g 68, .int (nI hh), .int (nI 0), .int x] m (RF (some (.int (x + (nI hh)))) (pM [10] 0 (opM m (nI hh)))) := by
  refine JM_of (ls := [some (rf g 68), some (.int (nI hh)), some (.int (nI 0)), some (.int x), none]) pn_X12 rfl rfl ?_
  refine j_aload0 1 dX12_voice_0 rfl ?_
  refine j_iload1 2 dX12_voice_1 rfl ?_
  refine j_vi1f 5 dX12_voice_2 rfl rfl cl_X12_199 rfl rfl (c_misHeir m _) ?_
  refine j_if_eq_bz 20 8 dX12_voice_5 rfl rfl (fun h5 => absurd h1 h5) (fun h5 => ?_)
  refine j_iload2 9 dX12_voice_8 rfl ?_
  refine j_i2l 10 dX12_voice_9 rfl ?_
  refine j_lconst 11 (v := 0) dX12_voice_10 rfl rfl ?_
  refine j_ldc2 14 dX12_voice_11 rfl kl_X12_182 ?_
  refine j_st3f 17 dX12_voice_14 rfl rfl cl_X12_47 rfl (c_in m _ 0 3) ?_
  refine j_if_ne_bz 26 20 dX12_voice_17 rfl rfl (fun h17 => ?_) (fun h17 => absurd (by decide) h17)
  refine j_aload0 27 dX12_voice_26 rfl ?_
  refine j_iload1 28 dX12_voice_27 rfl ?_
  refine j_putI 31 dX12_voice_28 rfl fp_X12_261 rfl rfl ?_
  refine j_aload0 32 dX12_voice_31 rfl ?_
  refine j_iconst 33 (v := 0) dX12_voice_32 rfl rfl ?_
  refine j_putI 36 dX12_voice_33 rfl fp_X12_255 rfl rfl ?_
  refine j_aload0 37 dX12_voice_36 rfl ?_
  refine j_aload0 38 dX12_voice_37 rfl ?_
  refine j_getI 41 dX12_voice_38 rfl fl_X12_261 rfl rfl ?_
  refine j_top (RV_op e0 e1).2.1 ?_
  refine j_iconst 42 (v := nI 0) dX12_voice_41 rfl rfl ?_
  refine j_vi2f 45 dX12_voice_42 rfl rfl cl_X12_146 rfl rfl (c_of _ hh 0 h8 (by decide)) ?_
  refine j_top (RV_op e0 e1).2.2.1 ?_
  refine j_istore4 47 dX12_voice_45 rfl rfl rfl ?_
  refine j_iload2 48 dX12_voice_47 rfl ?_
  refine j_if_ne 61 51 dX12_voice_48 rfl rfl (fun h48 => absurd h48 (by decide)) (fun h48 => ?_)
  refine j_aload0 52 dX12_voice_51 rfl ?_
  refine j_iload4 54 dX12_voice_52 rfl ?_
  refine j_iload3 55 dX12_voice_54 rfl ?_
  refine j_vi2f 58 dX12_voice_55 rfl rfl cl_X12_264 rfl rfl (rl_5 _ 0 hh 5 x mk h8 (RV_op e0 e1) (by decide)) ?_
  refine j_goto 98 dX12_voice_58 rfl ?_
  refine j_iret dX12_voice_98 rfl ?_
  exact ⟨rfl, rfl⟩
set_option maxRecDepth 100000 in
theorem o_voice_5_1 (m : Mem) (hh : Nat) (x : Int32) (h8 : hh < 8) (ek : m 12 hh = nI 5) (h1 : 0 ≤ nI hh ∧ nI hh < m 9 9 ∧ nI hh < 8) : JM l g 10 mX11_voice [rf g 0, .int (nI hh), .int (nI 1), .int x] m (RF (some (.int ((((x + 1) + (nI hh)) * 2) - (1 - (m 13 hh))))) (pC [60, 30, 11, 10, 12] 0 (opC m (nI hh) (m 13 hh)))) := by
  refine JM_of (ls := [some (rf g 0), some (.int (nI hh)), some (.int (nI 1)), some (.int x), none]) pn_X11 rfl rfl ?_
  refine j_aload0 1 dX11_voice_0 rfl ?_
  refine j_iload1 2 dX11_voice_1 rfl ?_
  refine j_vi1f 5 dX11_voice_2 rfl rfl cl_X11_124 rfl rfl (c_isHeir m _) ?_
  refine j_if_eq_bz 17 8 dX11_voice_5 rfl rfl (fun h5 => absurd h1 h5) (fun h5 => ?_)
  refine j_iload2 9 dX11_voice_8 rfl ?_
  refine j_iconst 10 (v := 0) dX11_voice_9 rfl rfl ?_
  refine j_iconst 11 (v := 3) dX11_voice_10 rfl rfl ?_
  refine j_st3f 14 dX11_voice_11 rfl rfl cl_X11_86 rfl (c_within m _ 0 3) ?_
  refine j_if_ne_bz 24 17 dX11_voice_14 rfl rfl (fun h14 => ?_) (fun h14 => absurd (by decide) h14)
  refine j_aload0 25 dX11_voice_24 rfl ?_
  refine j_getR 28 dX11_voice_25 rfl fl_X11_35 rfl rfl ?_
  refine j_iload1 29 dX11_voice_28 rfl ?_
  refine j_vi1f 32 dX11_voice_29 rfl rfl cl_X11_253 rfl rfl (c_kindOf_9 m hh 5 h8 (by decide) ek) ?_
  refine j_astore4 34 dX11_voice_32 rfl rfl rfl ?_
  refine j_aload0 35 dX11_voice_34 rfl ?_
  refine j_getR 38 dX11_voice_35 rfl fl_X11_58 rfl rfl ?_
  refine j_iload1 39 dX11_voice_38 rfl ?_
  refine j_aload0 40 dX11_voice_39 rfl ?_
  refine j_getR 43 dX11_voice_40 rfl fl_X11_35 rfl rfl ?_
  refine j_getR 46 dX11_voice_43 rfl fl_X11_130 rfl rfl ?_
  refine j_iload1 47 dX11_voice_46 rfl ?_
  refine j_iald 48 _ rfl h8 dX11_voice_47 rfl rfl ?_
  refine j_vi2v 51 dX11_voice_48 rfl rfl cl_X11_257 rfl rfl (c_open m (nI hh) (m 13 hh)) ?_
  refine j_iload2 52 dX11_voice_51 rfl ?_
  refine j_tabIn 91 dX11_voice_52 (by decide) (by decide) rfl rfl ?_
  refine j_aload4 93 dX11_voice_91 rfl ?_
  refine j_aload0 94 dX11_voice_93 rfl ?_
  refine j_getR 97 dX11_voice_94 rfl fl_X11_58 rfl rfl ?_
  refine j_iload3 98 dX11_voice_97 rfl ?_
  refine j_dy2f 101 dX11_voice_98 rfl rfl cu_X11_264_X2 rfl rfl (vs2_7 _ 0 x (nI hh) (m 13 hh) VS_op (by decide)) ?_
  refine j_iret dX11_voice_101 rfl ?_
  exact ⟨rfl, rfl⟩
set_option maxRecDepth 100000 in
theorem p_voice_5_1 (m : Mem) (hh : Nat) (x mk : Int32) (h8 : hh < 8) (e0 : hf (m 69) hh 0 = nI 5) (e1 : hf (m 69) hh 1 = mk) (h1 : 0 ≤ nI hh ∧ nI hh ≤ m 69 0 - 1) : JM l g 11 mX12_voice [rf g 68, .int (nI hh), .int (nI 1), .int x] m (RF (some (.int ((((x + 1) + (nI hh)) * 2) - (1 - mk)))) (pM [60, 30, 11, 10, 12] 0 (opM m (nI hh)))) := by
  refine JM_of (ls := [some (rf g 68), some (.int (nI hh)), some (.int (nI 1)), some (.int x), none]) pn_X12 rfl rfl ?_
  refine j_aload0 1 dX12_voice_0 rfl ?_
  refine j_iload1 2 dX12_voice_1 rfl ?_
  refine j_vi1f 5 dX12_voice_2 rfl rfl cl_X12_199 rfl rfl (c_misHeir m _) ?_
  refine j_if_eq_bz 20 8 dX12_voice_5 rfl rfl (fun h5 => absurd h1 h5) (fun h5 => ?_)
  refine j_iload2 9 dX12_voice_8 rfl ?_
  refine j_i2l 10 dX12_voice_9 rfl ?_
  refine j_lconst 11 (v := 0) dX12_voice_10 rfl rfl ?_
  refine j_ldc2 14 dX12_voice_11 rfl kl_X12_182 ?_
  refine j_st3f 17 dX12_voice_14 rfl rfl cl_X12_47 rfl (c_in m _ 0 3) ?_
  refine j_if_ne_bz 26 20 dX12_voice_17 rfl rfl (fun h17 => ?_) (fun h17 => absurd (by decide) h17)
  refine j_aload0 27 dX12_voice_26 rfl ?_
  refine j_iload1 28 dX12_voice_27 rfl ?_
  refine j_putI 31 dX12_voice_28 rfl fp_X12_261 rfl rfl ?_
  refine j_aload0 32 dX12_voice_31 rfl ?_
  refine j_iconst 33 (v := 0) dX12_voice_32 rfl rfl ?_
  refine j_putI 36 dX12_voice_33 rfl fp_X12_255 rfl rfl ?_
  refine j_aload0 37 dX12_voice_36 rfl ?_
  refine j_aload0 38 dX12_voice_37 rfl ?_
  refine j_getI 41 dX12_voice_38 rfl fl_X12_261 rfl rfl ?_
  refine j_top (RV_op e0 e1).2.1 ?_
  refine j_iconst 42 (v := nI 0) dX12_voice_41 rfl rfl ?_
  refine j_vi2f 45 dX12_voice_42 rfl rfl cl_X12_146 rfl rfl (c_of _ hh 0 h8 (by decide)) ?_
  refine j_top (RV_op e0 e1).2.2.1 ?_
  refine j_istore4 47 dX12_voice_45 rfl rfl rfl ?_
  refine j_iload2 48 dX12_voice_47 rfl ?_
  refine j_if_ne 61 51 dX12_voice_48 rfl rfl (fun h48 => ?_) (fun h48 => absurd h48 (by decide))
  refine j_iload2 62 dX12_voice_61 rfl ?_
  refine j_iconst 63 (v := 1) dX12_voice_62 rfl rfl ?_
  refine j_cmp_ne 76 66 dX12_voice_63 rfl rfl (fun h63 => absurd h63 (by decide)) (fun h63 => ?_)
  refine j_aload0 67 dX12_voice_66 rfl ?_
  refine j_iload4 69 dX12_voice_67 rfl ?_
  refine j_iload3 70 dX12_voice_69 rfl ?_
  refine j_vi2f 73 dX12_voice_70 rfl rfl cl_X12_267 rfl rfl (rs_5_5 _ 0 hh x mk h8 (RV_op e0 e1) (by decide)) ?_
  refine j_goto 98 dX12_voice_73 rfl ?_
  refine j_iret dX12_voice_98 rfl ?_
  exact ⟨rfl, rfl⟩
set_option maxRecDepth 100000 in
theorem o_voice_5_2 (m : Mem) (hh : Nat) (x : Int32) (h8 : hh < 8) (ek : m 12 hh = nI 5) (h1 : 0 ≤ nI hh ∧ nI hh < m 9 9 ∧ nI hh < 8) : JM l g 10 mX11_voice [rf g 0, .int (nI hh), .int (nI 2), .int x] m (RF (some (.int (x - (m 13 hh)))) (pC [12] 0 (opC m (nI hh) (m 13 hh)))) := by
  refine JM_of (ls := [some (rf g 0), some (.int (nI hh)), some (.int (nI 2)), some (.int x), none]) pn_X11 rfl rfl ?_
  refine j_aload0 1 dX11_voice_0 rfl ?_
  refine j_iload1 2 dX11_voice_1 rfl ?_
  refine j_vi1f 5 dX11_voice_2 rfl rfl cl_X11_124 rfl rfl (c_isHeir m _) ?_
  refine j_if_eq_bz 17 8 dX11_voice_5 rfl rfl (fun h5 => absurd h1 h5) (fun h5 => ?_)
  refine j_iload2 9 dX11_voice_8 rfl ?_
  refine j_iconst 10 (v := 0) dX11_voice_9 rfl rfl ?_
  refine j_iconst 11 (v := 3) dX11_voice_10 rfl rfl ?_
  refine j_st3f 14 dX11_voice_11 rfl rfl cl_X11_86 rfl (c_within m _ 0 3) ?_
  refine j_if_ne_bz 24 17 dX11_voice_14 rfl rfl (fun h14 => ?_) (fun h14 => absurd (by decide) h14)
  refine j_aload0 25 dX11_voice_24 rfl ?_
  refine j_getR 28 dX11_voice_25 rfl fl_X11_35 rfl rfl ?_
  refine j_iload1 29 dX11_voice_28 rfl ?_
  refine j_vi1f 32 dX11_voice_29 rfl rfl cl_X11_253 rfl rfl (c_kindOf_9 m hh 5 h8 (by decide) ek) ?_
  refine j_astore4 34 dX11_voice_32 rfl rfl rfl ?_
  refine j_aload0 35 dX11_voice_34 rfl ?_
  refine j_getR 38 dX11_voice_35 rfl fl_X11_58 rfl rfl ?_
  refine j_iload1 39 dX11_voice_38 rfl ?_
  refine j_aload0 40 dX11_voice_39 rfl ?_
  refine j_getR 43 dX11_voice_40 rfl fl_X11_35 rfl rfl ?_
  refine j_getR 46 dX11_voice_43 rfl fl_X11_130 rfl rfl ?_
  refine j_iload1 47 dX11_voice_46 rfl ?_
  refine j_iald 48 _ rfl h8 dX11_voice_47 rfl rfl ?_
  refine j_vi2v 51 dX11_voice_48 rfl rfl cl_X11_257 rfl rfl (c_open m (nI hh) (m 13 hh)) ?_
  refine j_iload2 52 dX11_voice_51 rfl ?_
  refine j_tabIn 102 dX11_voice_52 (by decide) (by decide) rfl rfl ?_
  refine j_aload4 104 dX11_voice_102 rfl ?_
  refine j_aload0 105 dX11_voice_104 rfl ?_
  refine j_getR 108 dX11_voice_105 rfl fl_X11_58 rfl rfl ?_
  refine j_iload3 109 dX11_voice_108 rfl ?_
  refine j_dy2f 112 dX11_voice_109 rfl rfl cu_X11_267_X2 rfl rfl (vd0_7 _ 0 x (nI hh) (m 13 hh) VS_op (by decide)) ?_
  refine j_iret dX11_voice_112 rfl ?_
  exact ⟨rfl, rfl⟩
set_option maxRecDepth 100000 in
theorem p_voice_5_2 (m : Mem) (hh : Nat) (x mk : Int32) (h8 : hh < 8) (e0 : hf (m 69) hh 0 = nI 5) (e1 : hf (m 69) hh 1 = mk) (h1 : 0 ≤ nI hh ∧ nI hh ≤ m 69 0 - 1) : JM l g 11 mX12_voice [rf g 68, .int (nI hh), .int (nI 2), .int x] m (RF (some (.int (x - mk))) (pM [12] 0 (opM m (nI hh)))) := by
  refine JM_of (ls := [some (rf g 68), some (.int (nI hh)), some (.int (nI 2)), some (.int x), none]) pn_X12 rfl rfl ?_
  refine j_aload0 1 dX12_voice_0 rfl ?_
  refine j_iload1 2 dX12_voice_1 rfl ?_
  refine j_vi1f 5 dX12_voice_2 rfl rfl cl_X12_199 rfl rfl (c_misHeir m _) ?_
  refine j_if_eq_bz 20 8 dX12_voice_5 rfl rfl (fun h5 => absurd h1 h5) (fun h5 => ?_)
  refine j_iload2 9 dX12_voice_8 rfl ?_
  refine j_i2l 10 dX12_voice_9 rfl ?_
  refine j_lconst 11 (v := 0) dX12_voice_10 rfl rfl ?_
  refine j_ldc2 14 dX12_voice_11 rfl kl_X12_182 ?_
  refine j_st3f 17 dX12_voice_14 rfl rfl cl_X12_47 rfl (c_in m _ 0 3) ?_
  refine j_if_ne_bz 26 20 dX12_voice_17 rfl rfl (fun h17 => ?_) (fun h17 => absurd (by decide) h17)
  refine j_aload0 27 dX12_voice_26 rfl ?_
  refine j_iload1 28 dX12_voice_27 rfl ?_
  refine j_putI 31 dX12_voice_28 rfl fp_X12_261 rfl rfl ?_
  refine j_aload0 32 dX12_voice_31 rfl ?_
  refine j_iconst 33 (v := 0) dX12_voice_32 rfl rfl ?_
  refine j_putI 36 dX12_voice_33 rfl fp_X12_255 rfl rfl ?_
  refine j_aload0 37 dX12_voice_36 rfl ?_
  refine j_aload0 38 dX12_voice_37 rfl ?_
  refine j_getI 41 dX12_voice_38 rfl fl_X12_261 rfl rfl ?_
  refine j_top (RV_op e0 e1).2.1 ?_
  refine j_iconst 42 (v := nI 0) dX12_voice_41 rfl rfl ?_
  refine j_vi2f 45 dX12_voice_42 rfl rfl cl_X12_146 rfl rfl (c_of _ hh 0 h8 (by decide)) ?_
  refine j_top (RV_op e0 e1).2.2.1 ?_
  refine j_istore4 47 dX12_voice_45 rfl rfl rfl ?_
  refine j_iload2 48 dX12_voice_47 rfl ?_
  refine j_if_ne 61 51 dX12_voice_48 rfl rfl (fun h48 => ?_) (fun h48 => absurd h48 (by decide))
  refine j_iload2 62 dX12_voice_61 rfl ?_
  refine j_iconst 63 (v := 1) dX12_voice_62 rfl rfl ?_
  refine j_cmp_ne 76 66 dX12_voice_63 rfl rfl (fun h63 => ?_) (fun h63 => absurd h63 (by decide))
  refine j_iload2 77 dX12_voice_76 rfl ?_
  refine j_iconst 78 (v := 2) dX12_voice_77 rfl rfl ?_
  refine j_cmp_ne 91 81 dX12_voice_78 rfl rfl (fun h78 => absurd h78 (by decide)) (fun h78 => ?_)
  refine j_aload0 82 dX12_voice_81 rfl ?_
  refine j_iload4 84 dX12_voice_82 rfl ?_
  refine j_iload3 85 dX12_voice_84 rfl ?_
  refine j_vi2f 88 dX12_voice_85 rfl rfl cl_X12_270 rfl rfl (rd_5 _ 0 hh 5 x mk h8 (RV_op e0 e1) (by decide)) ?_
  refine j_goto 98 dX12_voice_88 rfl ?_
  refine j_iret dX12_voice_98 rfl ?_
  exact ⟨rfl, rfl⟩
set_option maxRecDepth 100000 in
theorem o_voice_5_3 (m : Mem) (hh : Nat) (x : Int32) (h8 : hh < 8) (ek : m 12 hh = nI 5) (h1 : 0 ≤ nI hh ∧ nI hh < m 9 9 ∧ nI hh < 8) : JM l g 10 mX11_voice [rf g 0, .int (nI hh), .int (nI 3), .int x] m (RF (some (.int (((((x + 1) + (nI hh)) * 2) - (1 - (m 13 hh))) ^^^ (x - (m 13 hh))))) (pC [13, 60, 30, 11, 10, 12, 12] 0 (opC m (nI hh) (m 13 hh)))) := by
  refine JM_of (ls := [some (rf g 0), some (.int (nI hh)), some (.int (nI 3)), some (.int x), none]) pn_X11 rfl rfl ?_
  refine j_aload0 1 dX11_voice_0 rfl ?_
  refine j_iload1 2 dX11_voice_1 rfl ?_
  refine j_vi1f 5 dX11_voice_2 rfl rfl cl_X11_124 rfl rfl (c_isHeir m _) ?_
  refine j_if_eq_bz 17 8 dX11_voice_5 rfl rfl (fun h5 => absurd h1 h5) (fun h5 => ?_)
  refine j_iload2 9 dX11_voice_8 rfl ?_
  refine j_iconst 10 (v := 0) dX11_voice_9 rfl rfl ?_
  refine j_iconst 11 (v := 3) dX11_voice_10 rfl rfl ?_
  refine j_st3f 14 dX11_voice_11 rfl rfl cl_X11_86 rfl (c_within m _ 0 3) ?_
  refine j_if_ne_bz 24 17 dX11_voice_14 rfl rfl (fun h14 => ?_) (fun h14 => absurd (by decide) h14)
  refine j_aload0 25 dX11_voice_24 rfl ?_
  refine j_getR 28 dX11_voice_25 rfl fl_X11_35 rfl rfl ?_
  refine j_iload1 29 dX11_voice_28 rfl ?_
  refine j_vi1f 32 dX11_voice_29 rfl rfl cl_X11_253 rfl rfl (c_kindOf_9 m hh 5 h8 (by decide) ek) ?_
  refine j_astore4 34 dX11_voice_32 rfl rfl rfl ?_
  refine j_aload0 35 dX11_voice_34 rfl ?_
  refine j_getR 38 dX11_voice_35 rfl fl_X11_58 rfl rfl ?_
  refine j_iload1 39 dX11_voice_38 rfl ?_
  refine j_aload0 40 dX11_voice_39 rfl ?_
  refine j_getR 43 dX11_voice_40 rfl fl_X11_35 rfl rfl ?_
  refine j_getR 46 dX11_voice_43 rfl fl_X11_130 rfl rfl ?_
  refine j_iload1 47 dX11_voice_46 rfl ?_
  refine j_iald 48 _ rfl h8 dX11_voice_47 rfl rfl ?_
  refine j_vi2v 51 dX11_voice_48 rfl rfl cl_X11_257 rfl rfl (c_open m (nI hh) (m 13 hh)) ?_
  refine j_iload2 52 dX11_voice_51 rfl ?_
  refine j_tabOut 113 dX11_voice_52 (by decide) rfl ?_
  refine j_aload4 115 dX11_voice_113 rfl ?_
  refine j_aload0 116 dX11_voice_115 rfl ?_
  refine j_getR 119 dX11_voice_116 rfl fl_X11_58 rfl rfl ?_
  refine j_iload3 120 dX11_voice_119 rfl ?_
  refine j_dy2f 123 dX11_voice_120 rfl rfl cu_X11_270_X2 rfl rfl (vt0_7 _ 0 x (nI hh) (m 13 hh) VS_op (by decide)) ?_
  refine j_iret dX11_voice_123 rfl ?_
  exact ⟨rfl, rfl⟩
set_option maxRecDepth 100000 in
theorem p_voice_5_3 (m : Mem) (hh : Nat) (x mk : Int32) (h8 : hh < 8) (e0 : hf (m 69) hh 0 = nI 5) (e1 : hf (m 69) hh 1 = mk) (h1 : 0 ≤ nI hh ∧ nI hh ≤ m 69 0 - 1) : JM l g 11 mX12_voice [rf g 68, .int (nI hh), .int (nI 3), .int x] m (RF (some (.int (((((x + 1) + (nI hh)) * 2) - (1 - mk)) ^^^ (x - mk)))) (pM [13, 60, 30, 11, 10, 12, 12] 0 (opM m (nI hh)))) := by
  refine JM_of (ls := [some (rf g 68), some (.int (nI hh)), some (.int (nI 3)), some (.int x), none]) pn_X12 rfl rfl ?_
  refine j_aload0 1 dX12_voice_0 rfl ?_
  refine j_iload1 2 dX12_voice_1 rfl ?_
  refine j_vi1f 5 dX12_voice_2 rfl rfl cl_X12_199 rfl rfl (c_misHeir m _) ?_
  refine j_if_eq_bz 20 8 dX12_voice_5 rfl rfl (fun h5 => absurd h1 h5) (fun h5 => ?_)
  refine j_iload2 9 dX12_voice_8 rfl ?_
  refine j_i2l 10 dX12_voice_9 rfl ?_
  refine j_lconst 11 (v := 0) dX12_voice_10 rfl rfl ?_
  refine j_ldc2 14 dX12_voice_11 rfl kl_X12_182 ?_
  refine j_st3f 17 dX12_voice_14 rfl rfl cl_X12_47 rfl (c_in m _ 0 3) ?_
  refine j_if_ne_bz 26 20 dX12_voice_17 rfl rfl (fun h17 => ?_) (fun h17 => absurd (by decide) h17)
  refine j_aload0 27 dX12_voice_26 rfl ?_
  refine j_iload1 28 dX12_voice_27 rfl ?_
  refine j_putI 31 dX12_voice_28 rfl fp_X12_261 rfl rfl ?_
  refine j_aload0 32 dX12_voice_31 rfl ?_
  refine j_iconst 33 (v := 0) dX12_voice_32 rfl rfl ?_
  refine j_putI 36 dX12_voice_33 rfl fp_X12_255 rfl rfl ?_
  refine j_aload0 37 dX12_voice_36 rfl ?_
  refine j_aload0 38 dX12_voice_37 rfl ?_
  refine j_getI 41 dX12_voice_38 rfl fl_X12_261 rfl rfl ?_
  refine j_top (RV_op e0 e1).2.1 ?_
  refine j_iconst 42 (v := nI 0) dX12_voice_41 rfl rfl ?_
  refine j_vi2f 45 dX12_voice_42 rfl rfl cl_X12_146 rfl rfl (c_of _ hh 0 h8 (by decide)) ?_
  refine j_top (RV_op e0 e1).2.2.1 ?_
  refine j_istore4 47 dX12_voice_45 rfl rfl rfl ?_
  refine j_iload2 48 dX12_voice_47 rfl ?_
  refine j_if_ne 61 51 dX12_voice_48 rfl rfl (fun h48 => ?_) (fun h48 => absurd h48 (by decide))
  refine j_iload2 62 dX12_voice_61 rfl ?_
  refine j_iconst 63 (v := 1) dX12_voice_62 rfl rfl ?_
  refine j_cmp_ne 76 66 dX12_voice_63 rfl rfl (fun h63 => ?_) (fun h63 => absurd h63 (by decide))
  refine j_iload2 77 dX12_voice_76 rfl ?_
  refine j_iconst 78 (v := 2) dX12_voice_77 rfl rfl ?_
  refine j_cmp_ne 91 81 dX12_voice_78 rfl rfl (fun h78 => ?_) (fun h78 => absurd h78 (by decide))
  refine j_aload0 92 dX12_voice_91 rfl ?_
  refine j_iload4 94 dX12_voice_92 rfl ?_
  refine j_iload3 95 dX12_voice_94 rfl ?_
  refine j_vi2f 98 dX12_voice_95 rfl rfl cl_X12_273 rfl rfl (rt_5_5 _ 0 hh x mk h8 (RV_op e0 e1) (by decide)) ?_
  refine j_iret dX12_voice_98 rfl ?_
  exact ⟨rfl, rfl⟩
set_option maxRecDepth 100000 in
theorem o_voice_6_0 (m : Mem) (hh : Nat) (x : Int32) (h8 : hh < 8) (ek : m 12 hh = nI 6) (h1 : 0 ≤ nI hh ∧ nI hh < m 9 9 ∧ nI hh < 8) : JM l g 10 mX11_voice [rf g 0, .int (nI hh), .int (nI 0), .int x] m (RF (some (.int (x + (nI hh)))) (pC [10] 0 (opC m (nI hh) (m 13 hh)))) := by
  refine JM_of (ls := [some (rf g 0), some (.int (nI hh)), some (.int (nI 0)), some (.int x), none]) pn_X11 rfl rfl ?_
  refine j_aload0 1 dX11_voice_0 rfl ?_
  refine j_iload1 2 dX11_voice_1 rfl ?_
  refine j_vi1f 5 dX11_voice_2 rfl rfl cl_X11_124 rfl rfl (c_isHeir m _) ?_
  refine j_if_eq_bz 17 8 dX11_voice_5 rfl rfl (fun h5 => absurd h1 h5) (fun h5 => ?_)
  refine j_iload2 9 dX11_voice_8 rfl ?_
  refine j_iconst 10 (v := 0) dX11_voice_9 rfl rfl ?_
  refine j_iconst 11 (v := 3) dX11_voice_10 rfl rfl ?_
  refine j_st3f 14 dX11_voice_11 rfl rfl cl_X11_86 rfl (c_within m _ 0 3) ?_
  refine j_if_ne_bz 24 17 dX11_voice_14 rfl rfl (fun h14 => ?_) (fun h14 => absurd (by decide) h14)
  refine j_aload0 25 dX11_voice_24 rfl ?_
  refine j_getR 28 dX11_voice_25 rfl fl_X11_35 rfl rfl ?_
  refine j_iload1 29 dX11_voice_28 rfl ?_
  refine j_vi1f 32 dX11_voice_29 rfl rfl cl_X11_253 rfl rfl (c_kindOf_9 m hh 6 h8 (by decide) ek) ?_
  refine j_astore4 34 dX11_voice_32 rfl rfl rfl ?_
  refine j_aload0 35 dX11_voice_34 rfl ?_
  refine j_getR 38 dX11_voice_35 rfl fl_X11_58 rfl rfl ?_
  refine j_iload1 39 dX11_voice_38 rfl ?_
  refine j_aload0 40 dX11_voice_39 rfl ?_
  refine j_getR 43 dX11_voice_40 rfl fl_X11_35 rfl rfl ?_
  refine j_getR 46 dX11_voice_43 rfl fl_X11_130 rfl rfl ?_
  refine j_iload1 47 dX11_voice_46 rfl ?_
  refine j_iald 48 _ rfl h8 dX11_voice_47 rfl rfl ?_
  refine j_vi2v 51 dX11_voice_48 rfl rfl cl_X11_257 rfl rfl (c_open m (nI hh) (m 13 hh)) ?_
  refine j_iload2 52 dX11_voice_51 rfl ?_
  refine j_tabIn 80 dX11_voice_52 (by decide) (by decide) rfl rfl ?_
  refine j_aload4 82 dX11_voice_80 rfl ?_
  refine j_aload0 83 dX11_voice_82 rfl ?_
  refine j_getR 86 dX11_voice_83 rfl fl_X11_58 rfl rfl ?_
  refine j_iload3 87 dX11_voice_86 rfl ?_
  refine j_dy2f 90 dX11_voice_87 rfl rfl cu_X11_260_X4 rfl rfl (vl0_8 _ 0 x (nI hh) (m 13 hh) VS_op (by decide)) ?_
  refine j_iret dX11_voice_90 rfl ?_
  exact ⟨rfl, rfl⟩
set_option maxRecDepth 100000 in
theorem p_voice_6_0 (m : Mem) (hh : Nat) (x mk : Int32) (h8 : hh < 8) (e0 : hf (m 69) hh 0 = nI 6) (e1 : hf (m 69) hh 1 = mk) (h1 : 0 ≤ nI hh ∧ nI hh ≤ m 69 0 - 1) : JM l g 11 mX12_voice [rf g 68, .int (nI hh), .int (nI 0), .int x] m (RF (some (.int (x + (nI hh)))) (pM [10] 0 (opM m (nI hh)))) := by
  refine JM_of (ls := [some (rf g 68), some (.int (nI hh)), some (.int (nI 0)), some (.int x), none]) pn_X12 rfl rfl ?_
  refine j_aload0 1 dX12_voice_0 rfl ?_
  refine j_iload1 2 dX12_voice_1 rfl ?_
  refine j_vi1f 5 dX12_voice_2 rfl rfl cl_X12_199 rfl rfl (c_misHeir m _) ?_
  refine j_if_eq_bz 20 8 dX12_voice_5 rfl rfl (fun h5 => absurd h1 h5) (fun h5 => ?_)
  refine j_iload2 9 dX12_voice_8 rfl ?_
  refine j_i2l 10 dX12_voice_9 rfl ?_
  refine j_lconst 11 (v := 0) dX12_voice_10 rfl rfl ?_
  refine j_ldc2 14 dX12_voice_11 rfl kl_X12_182 ?_
  refine j_st3f 17 dX12_voice_14 rfl rfl cl_X12_47 rfl (c_in m _ 0 3) ?_
  refine j_if_ne_bz 26 20 dX12_voice_17 rfl rfl (fun h17 => ?_) (fun h17 => absurd (by decide) h17)
  refine j_aload0 27 dX12_voice_26 rfl ?_
  refine j_iload1 28 dX12_voice_27 rfl ?_
  refine j_putI 31 dX12_voice_28 rfl fp_X12_261 rfl rfl ?_
  refine j_aload0 32 dX12_voice_31 rfl ?_
  refine j_iconst 33 (v := 0) dX12_voice_32 rfl rfl ?_
  refine j_putI 36 dX12_voice_33 rfl fp_X12_255 rfl rfl ?_
  refine j_aload0 37 dX12_voice_36 rfl ?_
  refine j_aload0 38 dX12_voice_37 rfl ?_
  refine j_getI 41 dX12_voice_38 rfl fl_X12_261 rfl rfl ?_
  refine j_top (RV_op e0 e1).2.1 ?_
  refine j_iconst 42 (v := nI 0) dX12_voice_41 rfl rfl ?_
  refine j_vi2f 45 dX12_voice_42 rfl rfl cl_X12_146 rfl rfl (c_of _ hh 0 h8 (by decide)) ?_
  refine j_top (RV_op e0 e1).2.2.1 ?_
  refine j_istore4 47 dX12_voice_45 rfl rfl rfl ?_
  refine j_iload2 48 dX12_voice_47 rfl ?_
  refine j_if_ne 61 51 dX12_voice_48 rfl rfl (fun h48 => absurd h48 (by decide)) (fun h48 => ?_)
  refine j_aload0 52 dX12_voice_51 rfl ?_
  refine j_iload4 54 dX12_voice_52 rfl ?_
  refine j_iload3 55 dX12_voice_54 rfl ?_
  refine j_vi2f 58 dX12_voice_55 rfl rfl cl_X12_264 rfl rfl (rl_6 _ 0 hh 6 x mk h8 (RV_op e0 e1) (by decide)) ?_
  refine j_goto 98 dX12_voice_58 rfl ?_
  refine j_iret dX12_voice_98 rfl ?_
  exact ⟨rfl, rfl⟩
set_option maxRecDepth 100000 in
theorem o_voice_6_1 (m : Mem) (hh : Nat) (x : Int32) (h8 : hh < 8) (ek : m 12 hh = nI 6) (h1 : 0 ≤ nI hh ∧ nI hh < m 9 9 ∧ nI hh < 8) : JM l g 10 mX11_voice [rf g 0, .int (nI hh), .int (nI 1), .int x] m (RF (some (.int ((x + (nI hh)) * 2))) (pC [11, 10] 0 (opC m (nI hh) (m 13 hh)))) := by
  refine JM_of (ls := [some (rf g 0), some (.int (nI hh)), some (.int (nI 1)), some (.int x), none]) pn_X11 rfl rfl ?_
  refine j_aload0 1 dX11_voice_0 rfl ?_
  refine j_iload1 2 dX11_voice_1 rfl ?_
  refine j_vi1f 5 dX11_voice_2 rfl rfl cl_X11_124 rfl rfl (c_isHeir m _) ?_
  refine j_if_eq_bz 17 8 dX11_voice_5 rfl rfl (fun h5 => absurd h1 h5) (fun h5 => ?_)
  refine j_iload2 9 dX11_voice_8 rfl ?_
  refine j_iconst 10 (v := 0) dX11_voice_9 rfl rfl ?_
  refine j_iconst 11 (v := 3) dX11_voice_10 rfl rfl ?_
  refine j_st3f 14 dX11_voice_11 rfl rfl cl_X11_86 rfl (c_within m _ 0 3) ?_
  refine j_if_ne_bz 24 17 dX11_voice_14 rfl rfl (fun h14 => ?_) (fun h14 => absurd (by decide) h14)
  refine j_aload0 25 dX11_voice_24 rfl ?_
  refine j_getR 28 dX11_voice_25 rfl fl_X11_35 rfl rfl ?_
  refine j_iload1 29 dX11_voice_28 rfl ?_
  refine j_vi1f 32 dX11_voice_29 rfl rfl cl_X11_253 rfl rfl (c_kindOf_9 m hh 6 h8 (by decide) ek) ?_
  refine j_astore4 34 dX11_voice_32 rfl rfl rfl ?_
  refine j_aload0 35 dX11_voice_34 rfl ?_
  refine j_getR 38 dX11_voice_35 rfl fl_X11_58 rfl rfl ?_
  refine j_iload1 39 dX11_voice_38 rfl ?_
  refine j_aload0 40 dX11_voice_39 rfl ?_
  refine j_getR 43 dX11_voice_40 rfl fl_X11_35 rfl rfl ?_
  refine j_getR 46 dX11_voice_43 rfl fl_X11_130 rfl rfl ?_
  refine j_iload1 47 dX11_voice_46 rfl ?_
  refine j_iald 48 _ rfl h8 dX11_voice_47 rfl rfl ?_
  refine j_vi2v 51 dX11_voice_48 rfl rfl cl_X11_257 rfl rfl (c_open m (nI hh) (m 13 hh)) ?_
  refine j_iload2 52 dX11_voice_51 rfl ?_
  refine j_tabIn 91 dX11_voice_52 (by decide) (by decide) rfl rfl ?_
  refine j_aload4 93 dX11_voice_91 rfl ?_
  refine j_aload0 94 dX11_voice_93 rfl ?_
  refine j_getR 97 dX11_voice_94 rfl fl_X11_58 rfl rfl ?_
  refine j_iload3 98 dX11_voice_97 rfl ?_
  refine j_dy2f 101 dX11_voice_98 rfl rfl cu_X11_264_X4 rfl rfl (vs0_8 _ 0 x (nI hh) (m 13 hh) VS_op (by decide)) ?_
  refine j_iret dX11_voice_101 rfl ?_
  exact ⟨rfl, rfl⟩
set_option maxRecDepth 100000 in
theorem p_voice_6_1 (m : Mem) (hh : Nat) (x mk : Int32) (h8 : hh < 8) (e0 : hf (m 69) hh 0 = nI 6) (e1 : hf (m 69) hh 1 = mk) (h1 : 0 ≤ nI hh ∧ nI hh ≤ m 69 0 - 1) : JM l g 11 mX12_voice [rf g 68, .int (nI hh), .int (nI 1), .int x] m (RF (some (.int ((x + (nI hh)) * 2))) (pM [11, 10] 0 (opM m (nI hh)))) := by
  refine JM_of (ls := [some (rf g 68), some (.int (nI hh)), some (.int (nI 1)), some (.int x), none]) pn_X12 rfl rfl ?_
  refine j_aload0 1 dX12_voice_0 rfl ?_
  refine j_iload1 2 dX12_voice_1 rfl ?_
  refine j_vi1f 5 dX12_voice_2 rfl rfl cl_X12_199 rfl rfl (c_misHeir m _) ?_
  refine j_if_eq_bz 20 8 dX12_voice_5 rfl rfl (fun h5 => absurd h1 h5) (fun h5 => ?_)
  refine j_iload2 9 dX12_voice_8 rfl ?_
  refine j_i2l 10 dX12_voice_9 rfl ?_
  refine j_lconst 11 (v := 0) dX12_voice_10 rfl rfl ?_
  refine j_ldc2 14 dX12_voice_11 rfl kl_X12_182 ?_
  refine j_st3f 17 dX12_voice_14 rfl rfl cl_X12_47 rfl (c_in m _ 0 3) ?_
  refine j_if_ne_bz 26 20 dX12_voice_17 rfl rfl (fun h17 => ?_) (fun h17 => absurd (by decide) h17)
  refine j_aload0 27 dX12_voice_26 rfl ?_
  refine j_iload1 28 dX12_voice_27 rfl ?_
  refine j_putI 31 dX12_voice_28 rfl fp_X12_261 rfl rfl ?_
  refine j_aload0 32 dX12_voice_31 rfl ?_
  refine j_iconst 33 (v := 0) dX12_voice_32 rfl rfl ?_
  refine j_putI 36 dX12_voice_33 rfl fp_X12_255 rfl rfl ?_
  refine j_aload0 37 dX12_voice_36 rfl ?_
  refine j_aload0 38 dX12_voice_37 rfl ?_
  refine j_getI 41 dX12_voice_38 rfl fl_X12_261 rfl rfl ?_
  refine j_top (RV_op e0 e1).2.1 ?_
  refine j_iconst 42 (v := nI 0) dX12_voice_41 rfl rfl ?_
  refine j_vi2f 45 dX12_voice_42 rfl rfl cl_X12_146 rfl rfl (c_of _ hh 0 h8 (by decide)) ?_
  refine j_top (RV_op e0 e1).2.2.1 ?_
  refine j_istore4 47 dX12_voice_45 rfl rfl rfl ?_
  refine j_iload2 48 dX12_voice_47 rfl ?_
  refine j_if_ne 61 51 dX12_voice_48 rfl rfl (fun h48 => ?_) (fun h48 => absurd h48 (by decide))
  refine j_iload2 62 dX12_voice_61 rfl ?_
  refine j_iconst 63 (v := 1) dX12_voice_62 rfl rfl ?_
  refine j_cmp_ne 76 66 dX12_voice_63 rfl rfl (fun h63 => absurd h63 (by decide)) (fun h63 => ?_)
  refine j_aload0 67 dX12_voice_66 rfl ?_
  refine j_iload4 69 dX12_voice_67 rfl ?_
  refine j_iload3 70 dX12_voice_69 rfl ?_
  refine j_vi2f 73 dX12_voice_70 rfl rfl cl_X12_267 rfl rfl (rs_6_6 _ 0 hh x mk h8 (RV_op e0 e1) (by decide)) ?_
  refine j_goto 98 dX12_voice_73 rfl ?_
  refine j_iret dX12_voice_98 rfl ?_
  exact ⟨rfl, rfl⟩
set_option maxRecDepth 100000 in
theorem o_voice_6_2 (m : Mem) (hh : Nat) (x : Int32) (h8 : hh < 8) (ek : m 12 hh = nI 6) (h1 : 0 ≤ nI hh ∧ nI hh < m 9 9 ∧ nI hh < 8) : JM l g 10 mX11_voice [rf g 0, .int (nI hh), .int (nI 2), .int x] m (RF (some (.int ((-(x - (m 13 hh))) ^^^ (nI hh)))) (pC [70, 40, 12] 0 (opC m (nI hh) (m 13 hh)))) := by
  refine JM_of (ls := [some (rf g 0), some (.int (nI hh)), some (.int (nI 2)), some (.int x), none]) pn_X11 rfl rfl ?_
  refine j_aload0 1 dX11_voice_0 rfl ?_
  refine j_iload1 2 dX11_voice_1 rfl ?_
  refine j_vi1f 5 dX11_voice_2 rfl rfl cl_X11_124 rfl rfl (c_isHeir m _) ?_
  refine j_if_eq_bz 17 8 dX11_voice_5 rfl rfl (fun h5 => absurd h1 h5) (fun h5 => ?_)
  refine j_iload2 9 dX11_voice_8 rfl ?_
  refine j_iconst 10 (v := 0) dX11_voice_9 rfl rfl ?_
  refine j_iconst 11 (v := 3) dX11_voice_10 rfl rfl ?_
  refine j_st3f 14 dX11_voice_11 rfl rfl cl_X11_86 rfl (c_within m _ 0 3) ?_
  refine j_if_ne_bz 24 17 dX11_voice_14 rfl rfl (fun h14 => ?_) (fun h14 => absurd (by decide) h14)
  refine j_aload0 25 dX11_voice_24 rfl ?_
  refine j_getR 28 dX11_voice_25 rfl fl_X11_35 rfl rfl ?_
  refine j_iload1 29 dX11_voice_28 rfl ?_
  refine j_vi1f 32 dX11_voice_29 rfl rfl cl_X11_253 rfl rfl (c_kindOf_9 m hh 6 h8 (by decide) ek) ?_
  refine j_astore4 34 dX11_voice_32 rfl rfl rfl ?_
  refine j_aload0 35 dX11_voice_34 rfl ?_
  refine j_getR 38 dX11_voice_35 rfl fl_X11_58 rfl rfl ?_
  refine j_iload1 39 dX11_voice_38 rfl ?_
  refine j_aload0 40 dX11_voice_39 rfl ?_
  refine j_getR 43 dX11_voice_40 rfl fl_X11_35 rfl rfl ?_
  refine j_getR 46 dX11_voice_43 rfl fl_X11_130 rfl rfl ?_
  refine j_iload1 47 dX11_voice_46 rfl ?_
  refine j_iald 48 _ rfl h8 dX11_voice_47 rfl rfl ?_
  refine j_vi2v 51 dX11_voice_48 rfl rfl cl_X11_257 rfl rfl (c_open m (nI hh) (m 13 hh)) ?_
  refine j_iload2 52 dX11_voice_51 rfl ?_
  refine j_tabIn 102 dX11_voice_52 (by decide) (by decide) rfl rfl ?_
  refine j_aload4 104 dX11_voice_102 rfl ?_
  refine j_aload0 105 dX11_voice_104 rfl ?_
  refine j_getR 108 dX11_voice_105 rfl fl_X11_58 rfl rfl ?_
  refine j_iload3 109 dX11_voice_108 rfl ?_
  refine j_dy2f 112 dX11_voice_109 rfl rfl cu_X11_267_X4 rfl rfl (vd2_8 _ 0 x (nI hh) (m 13 hh) VS_op (by decide)) ?_
  refine j_iret dX11_voice_112 rfl ?_
  exact ⟨rfl, rfl⟩
set_option maxRecDepth 100000 in
theorem p_voice_6_2 (m : Mem) (hh : Nat) (x mk : Int32) (h8 : hh < 8) (e0 : hf (m 69) hh 0 = nI 6) (e1 : hf (m 69) hh 1 = mk) (h1 : 0 ≤ nI hh ∧ nI hh ≤ m 69 0 - 1) : JM l g 11 mX12_voice [rf g 68, .int (nI hh), .int (nI 2), .int x] m (RF (some (.int ((-(x - mk)) ^^^ (nI hh)))) (pM [70, 40, 12] 0 (opM m (nI hh)))) := by
  refine JM_of (ls := [some (rf g 68), some (.int (nI hh)), some (.int (nI 2)), some (.int x), none]) pn_X12 rfl rfl ?_
  refine j_aload0 1 dX12_voice_0 rfl ?_
  refine j_iload1 2 dX12_voice_1 rfl ?_
  refine j_vi1f 5 dX12_voice_2 rfl rfl cl_X12_199 rfl rfl (c_misHeir m _) ?_
  refine j_if_eq_bz 20 8 dX12_voice_5 rfl rfl (fun h5 => absurd h1 h5) (fun h5 => ?_)
  refine j_iload2 9 dX12_voice_8 rfl ?_
  refine j_i2l 10 dX12_voice_9 rfl ?_
  refine j_lconst 11 (v := 0) dX12_voice_10 rfl rfl ?_
  refine j_ldc2 14 dX12_voice_11 rfl kl_X12_182 ?_
  refine j_st3f 17 dX12_voice_14 rfl rfl cl_X12_47 rfl (c_in m _ 0 3) ?_
  refine j_if_ne_bz 26 20 dX12_voice_17 rfl rfl (fun h17 => ?_) (fun h17 => absurd (by decide) h17)
  refine j_aload0 27 dX12_voice_26 rfl ?_
  refine j_iload1 28 dX12_voice_27 rfl ?_
  refine j_putI 31 dX12_voice_28 rfl fp_X12_261 rfl rfl ?_
  refine j_aload0 32 dX12_voice_31 rfl ?_
  refine j_iconst 33 (v := 0) dX12_voice_32 rfl rfl ?_
  refine j_putI 36 dX12_voice_33 rfl fp_X12_255 rfl rfl ?_
  refine j_aload0 37 dX12_voice_36 rfl ?_
  refine j_aload0 38 dX12_voice_37 rfl ?_
  refine j_getI 41 dX12_voice_38 rfl fl_X12_261 rfl rfl ?_
  refine j_top (RV_op e0 e1).2.1 ?_
  refine j_iconst 42 (v := nI 0) dX12_voice_41 rfl rfl ?_
  refine j_vi2f 45 dX12_voice_42 rfl rfl cl_X12_146 rfl rfl (c_of _ hh 0 h8 (by decide)) ?_
  refine j_top (RV_op e0 e1).2.2.1 ?_
  refine j_istore4 47 dX12_voice_45 rfl rfl rfl ?_
  refine j_iload2 48 dX12_voice_47 rfl ?_
  refine j_if_ne 61 51 dX12_voice_48 rfl rfl (fun h48 => ?_) (fun h48 => absurd h48 (by decide))
  refine j_iload2 62 dX12_voice_61 rfl ?_
  refine j_iconst 63 (v := 1) dX12_voice_62 rfl rfl ?_
  refine j_cmp_ne 76 66 dX12_voice_63 rfl rfl (fun h63 => ?_) (fun h63 => absurd h63 (by decide))
  refine j_iload2 77 dX12_voice_76 rfl ?_
  refine j_iconst 78 (v := 2) dX12_voice_77 rfl rfl ?_
  refine j_cmp_ne 91 81 dX12_voice_78 rfl rfl (fun h78 => absurd h78 (by decide)) (fun h78 => ?_)
  refine j_aload0 82 dX12_voice_81 rfl ?_
  refine j_iload4 84 dX12_voice_82 rfl ?_
  refine j_iload3 85 dX12_voice_84 rfl ?_
  refine j_vi2f 88 dX12_voice_85 rfl rfl cl_X12_270 rfl rfl (rd_6 _ 0 hh 6 x mk h8 (RV_op e0 e1) (by decide)) ?_
  refine j_goto 98 dX12_voice_88 rfl ?_
  refine j_iret dX12_voice_98 rfl ?_
  exact ⟨rfl, rfl⟩
set_option maxRecDepth 100000 in
theorem o_voice_6_3 (m : Mem) (hh : Nat) (x : Int32) (h8 : hh < 8) (ek : m 12 hh = nI 6) (h1 : 0 ≤ nI hh ∧ nI hh < m 9 9 ∧ nI hh < 8) : JM l g 10 mX11_voice [rf g 0, .int (nI hh), .int (nI 3), .int x] m (RF (some (.int (((x + (nI hh)) * 2) - (((x + (nI hh)) * 2) ^^^ ((-(x - (m 13 hh))) ^^^ (nI hh)))))) (pC [71, 11, 10, 13, 11, 10, 70, 40, 12] 0 (opC m (nI hh) (m 13 hh)))) := by
  refine JM_of (ls := [some (rf g 0), some (.int (nI hh)), some (.int (nI 3)), some (.int x), none]) pn_X11 rfl rfl ?_
  refine j_aload0 1 dX11_voice_0 rfl ?_
  refine j_iload1 2 dX11_voice_1 rfl ?_
  refine j_vi1f 5 dX11_voice_2 rfl rfl cl_X11_124 rfl rfl (c_isHeir m _) ?_
  refine j_if_eq_bz 17 8 dX11_voice_5 rfl rfl (fun h5 => absurd h1 h5) (fun h5 => ?_)
  refine j_iload2 9 dX11_voice_8 rfl ?_
  refine j_iconst 10 (v := 0) dX11_voice_9 rfl rfl ?_
  refine j_iconst 11 (v := 3) dX11_voice_10 rfl rfl ?_
  refine j_st3f 14 dX11_voice_11 rfl rfl cl_X11_86 rfl (c_within m _ 0 3) ?_
  refine j_if_ne_bz 24 17 dX11_voice_14 rfl rfl (fun h14 => ?_) (fun h14 => absurd (by decide) h14)
  refine j_aload0 25 dX11_voice_24 rfl ?_
  refine j_getR 28 dX11_voice_25 rfl fl_X11_35 rfl rfl ?_
  refine j_iload1 29 dX11_voice_28 rfl ?_
  refine j_vi1f 32 dX11_voice_29 rfl rfl cl_X11_253 rfl rfl (c_kindOf_9 m hh 6 h8 (by decide) ek) ?_
  refine j_astore4 34 dX11_voice_32 rfl rfl rfl ?_
  refine j_aload0 35 dX11_voice_34 rfl ?_
  refine j_getR 38 dX11_voice_35 rfl fl_X11_58 rfl rfl ?_
  refine j_iload1 39 dX11_voice_38 rfl ?_
  refine j_aload0 40 dX11_voice_39 rfl ?_
  refine j_getR 43 dX11_voice_40 rfl fl_X11_35 rfl rfl ?_
  refine j_getR 46 dX11_voice_43 rfl fl_X11_130 rfl rfl ?_
  refine j_iload1 47 dX11_voice_46 rfl ?_
  refine j_iald 48 _ rfl h8 dX11_voice_47 rfl rfl ?_
  refine j_vi2v 51 dX11_voice_48 rfl rfl cl_X11_257 rfl rfl (c_open m (nI hh) (m 13 hh)) ?_
  refine j_iload2 52 dX11_voice_51 rfl ?_
  refine j_tabOut 113 dX11_voice_52 (by decide) rfl ?_
  refine j_aload4 115 dX11_voice_113 rfl ?_
  refine j_aload0 116 dX11_voice_115 rfl ?_
  refine j_getR 119 dX11_voice_116 rfl fl_X11_58 rfl rfl ?_
  refine j_iload3 120 dX11_voice_119 rfl ?_
  refine j_dy2f 123 dX11_voice_120 rfl rfl cu_X11_270_X4 rfl rfl (vt1_8 _ 0 x (nI hh) (m 13 hh) VS_op (by decide)) ?_
  refine j_iret dX11_voice_123 rfl ?_
  exact ⟨rfl, rfl⟩
set_option maxRecDepth 100000 in
theorem p_voice_6_3 (m : Mem) (hh : Nat) (x mk : Int32) (h8 : hh < 8) (e0 : hf (m 69) hh 0 = nI 6) (e1 : hf (m 69) hh 1 = mk) (h1 : 0 ≤ nI hh ∧ nI hh ≤ m 69 0 - 1) : JM l g 11 mX12_voice [rf g 68, .int (nI hh), .int (nI 3), .int x] m (RF (some (.int (((x + (nI hh)) * 2) - (((x + (nI hh)) * 2) ^^^ ((-(x - mk)) ^^^ (nI hh)))))) (pM [71, 11, 10, 13, 11, 10, 70, 40, 12] 0 (opM m (nI hh)))) := by
  refine JM_of (ls := [some (rf g 68), some (.int (nI hh)), some (.int (nI 3)), some (.int x), none]) pn_X12 rfl rfl ?_
  refine j_aload0 1 dX12_voice_0 rfl ?_
  refine j_iload1 2 dX12_voice_1 rfl ?_
  refine j_vi1f 5 dX12_voice_2 rfl rfl cl_X12_199 rfl rfl (c_misHeir m _) ?_
  refine j_if_eq_bz 20 8 dX12_voice_5 rfl rfl (fun h5 => absurd h1 h5) (fun h5 => ?_)
  refine j_iload2 9 dX12_voice_8 rfl ?_
  refine j_i2l 10 dX12_voice_9 rfl ?_
  refine j_lconst 11 (v := 0) dX12_voice_10 rfl rfl ?_
  refine j_ldc2 14 dX12_voice_11 rfl kl_X12_182 ?_
  refine j_st3f 17 dX12_voice_14 rfl rfl cl_X12_47 rfl (c_in m _ 0 3) ?_
  refine j_if_ne_bz 26 20 dX12_voice_17 rfl rfl (fun h17 => ?_) (fun h17 => absurd (by decide) h17)
  refine j_aload0 27 dX12_voice_26 rfl ?_
  refine j_iload1 28 dX12_voice_27 rfl ?_
  refine j_putI 31 dX12_voice_28 rfl fp_X12_261 rfl rfl ?_
  refine j_aload0 32 dX12_voice_31 rfl ?_
  refine j_iconst 33 (v := 0) dX12_voice_32 rfl rfl ?_
  refine j_putI 36 dX12_voice_33 rfl fp_X12_255 rfl rfl ?_
  refine j_aload0 37 dX12_voice_36 rfl ?_
  refine j_aload0 38 dX12_voice_37 rfl ?_
  refine j_getI 41 dX12_voice_38 rfl fl_X12_261 rfl rfl ?_
  refine j_top (RV_op e0 e1).2.1 ?_
  refine j_iconst 42 (v := nI 0) dX12_voice_41 rfl rfl ?_
  refine j_vi2f 45 dX12_voice_42 rfl rfl cl_X12_146 rfl rfl (c_of _ hh 0 h8 (by decide)) ?_
  refine j_top (RV_op e0 e1).2.2.1 ?_
  refine j_istore4 47 dX12_voice_45 rfl rfl rfl ?_
  refine j_iload2 48 dX12_voice_47 rfl ?_
  refine j_if_ne 61 51 dX12_voice_48 rfl rfl (fun h48 => ?_) (fun h48 => absurd h48 (by decide))
  refine j_iload2 62 dX12_voice_61 rfl ?_
  refine j_iconst 63 (v := 1) dX12_voice_62 rfl rfl ?_
  refine j_cmp_ne 76 66 dX12_voice_63 rfl rfl (fun h63 => ?_) (fun h63 => absurd h63 (by decide))
  refine j_iload2 77 dX12_voice_76 rfl ?_
  refine j_iconst 78 (v := 2) dX12_voice_77 rfl rfl ?_
  refine j_cmp_ne 91 81 dX12_voice_78 rfl rfl (fun h78 => ?_) (fun h78 => absurd h78 (by decide))
  refine j_aload0 92 dX12_voice_91 rfl ?_
  refine j_iload4 94 dX12_voice_92 rfl ?_
  refine j_iload3 95 dX12_voice_94 rfl ?_
  refine j_vi2f 98 dX12_voice_95 rfl rfl cl_X12_273 rfl rfl (rt_6_6 _ 0 hh x mk h8 (RV_op e0 e1) (by decide)) ?_
  refine j_iret dX12_voice_98 rfl ?_
  exact ⟨rfl, rfl⟩
theorem op_voice {m : Mem} (I : INV m) (a b x : Int32) : OPr l g mX11_voice mX12_voice [.int a, .int b, .int x] m := by
  obtain ⟨⟨wf, hd, hT, hP⟩, -⟩ := id I
  by_cases c : (0 ≤ a ∧ a < m 69 0 ∧ a < 8) ∧ (0 ≤ b ∧ b ≤ 3)
  · obtain ⟨ca, cb⟩ := c
    obtain ⟨hh, hi, rfl⟩ := (isH_c wf).mp ca
    obtain ⟨t, ht, rfl⟩ := (rngN 3 (by decide)).mp cb
    have hM := (isH_m wf).mpr ⟨hh, hi, rfl⟩
    have ca9 : 0 ≤ nI hh ∧ nI hh < m 9 9 ∧ nI hh < 8 := by rw [hT.1]; exact ca
    have h8 : hh < 8 := by have := wf.n.1; omega
    obtain ⟨k, hk, ek⟩ := (wf.hw h8).1
    have e12 : m 12 hh = nI k := (hT.2.2.2.2.2.2.2 hh h8 0 (by decide)).trans ek
    have e13 : m 13 hh = hf (m 69) hh 1 := hT.2.2.2.2.2.2.2 hh h8 1 (by decide)
    have key : ∀ (L : List Int32), L.length ≤ 40 → INV (pM L 0 (opM (pC L 0 (opC m (nI hh) (m 13 hh))) (nI hh))) := fun L hL => by
      have s1 : Sm [58, 59] m (pC L 0 (opC m (nI hh) (m 13 hh))) := fun b hb => (psh_r (fun q => hb (by rw [q]; decide)) (fun q => hb (by rw [q]; decide)) L 0 _).trans ((up2_r (fun q => hb (by rw [q]; decide))).trans ((up2_r (fun q => hb (by rw [q]; decide))).trans (up2_r (fun q => hb (by rw [q]; decide)))))
      have s2 : ∀ M : Mem, Sm [68, 76] M (pM L 0 (opM M (nI hh))) := fun M b hb => (psh_r (fun q => hb (by rw [q]; decide)) (fun q => hb (by rw [q]; decide)) L 0 _).trans ((up2_r (fun q => hb (by rw [q]; decide))).trans (up2_r (fun q => hb (by rw [q]; decide))))
      refine INV_voice I L hL s1 ((VS_op.psh L).1.trans (by rw [Nat.zero_add])) (fun i hi => ?_) (s2 _) ?_ ((psh_cnt L 0 _ up2_s).trans (by rw [Nat.zero_add])) (fun i hi => ?_)
      · have := psh_get (cb := 59) (cc := 58) (ck := 1) (by decide) L 0 i (opC m (nI hh) (m 13 hh)) hi
        rw [Nat.zero_add] at this
        exact this
      · exact (psh_o (by decide) (by decide) L 0 _).trans ((up2_k (by decide)).trans (up2_k (by decide)))
      · have := psh_get (cb := 76) (cc := 68) (ck := 16) (by decide) L 0 i (opM (pC L 0 (opC m (nI hh) (m 13 hh))) (nI hh)) hi
        rw [Nat.zero_add] at this
        exact this
    have e69 : ∀ (L : List Int32), pC L 0 (opC m (nI hh) (m 13 hh)) 69 = m 69 := fun L => (psh_r (by decide) (by decide) L 0 _).trans ((up2_r (by decide)).trans ((up2_r (by decide)).trans (up2_r (by decide))))
    rcases (show k = 0 ∨ k = 1 ∨ k = 2 ∨ k = 3 ∨ k = 4 ∨ k = 5 ∨ k = 6 by omega) with rfl | rfl | rfl | rfl | rfl | rfl | rfl <;> rcases (show t = 0 ∨ t = 1 ∨ t = 2 ∨ t = 3 by omega) with rfl | rfl | rfl | rfl
    · refine ⟨10, 11, _, _, by decide, by decide, o_voice_0_0 m hh x h8 e12 ca9, fun m' e => ?_⟩
      subst e
      exact (p_voice_0_0 _ hh x (m 13 hh) h8 (by rw [e69]; exact ek) (by rw [e69]; exact e13.symm) (by rw [e69]; exact hM)).mono (RS_w (fun m2 q => by rw [q]; exact key [10] (by decide)))
    · refine ⟨10, 11, _, _, by decide, by decide, o_voice_0_1 m hh x h8 e12 ca9, fun m' e => ?_⟩
      subst e
      exact (p_voice_0_1 _ hh x (m 13 hh) h8 (by rw [e69]; exact ek) (by rw [e69]; exact e13.symm) (by rw [e69]; exact hM)).mono (RS_w (fun m2 q => by rw [q]; exact key [11, 10] (by decide)))
    · refine ⟨10, 11, _, _, by decide, by decide, o_voice_0_2 m hh x h8 e12 ca9, fun m' e => ?_⟩
      subst e
      exact (p_voice_0_2 _ hh x (m 13 hh) h8 (by rw [e69]; exact ek) (by rw [e69]; exact e13.symm) (by rw [e69]; exact hM)).mono (RS_w (fun m2 q => by rw [q]; exact key [12] (by decide)))
    · refine ⟨10, 11, _, _, by decide, by decide, o_voice_0_3 m hh x h8 e12 ca9, fun m' e => ?_⟩
      subst e
      exact (p_voice_0_3 _ hh x (m 13 hh) h8 (by rw [e69]; exact ek) (by rw [e69]; exact e13.symm) (by rw [e69]; exact hM)).mono (RS_w (fun m2 q => by rw [q]; exact key [13, 11, 10, 12] (by decide)))
    · refine ⟨10, 11, _, _, by decide, by decide, o_voice_1_0 m hh x h8 e12 ca9, fun m' e => ?_⟩
      subst e
      exact (p_voice_1_0 _ hh x (m 13 hh) h8 (by rw [e69]; exact ek) (by rw [e69]; exact e13.symm) (by rw [e69]; exact hM)).mono (RS_w (fun m2 q => by rw [q]; exact key [20, 10] (by decide)))
    · refine ⟨10, 11, _, _, by decide, by decide, o_voice_1_1 m hh x h8 e12 ca9, fun m' e => ?_⟩
      subst e
      exact (p_voice_1_1 _ hh x (m 13 hh) h8 (by rw [e69]; exact ek) (by rw [e69]; exact e13.symm) (by rw [e69]; exact hM)).mono (RS_w (fun m2 q => by rw [q]; exact key [11, 20, 10] (by decide)))
    · refine ⟨10, 11, _, _, by decide, by decide, o_voice_1_2 m hh x h8 e12 ca9, fun m' e => ?_⟩
      subst e
      exact (p_voice_1_2 _ hh x (m 13 hh) h8 (by rw [e69]; exact ek) (by rw [e69]; exact e13.symm) (by rw [e69]; exact hM)).mono (RS_w (fun m2 q => by rw [q]; exact key [12] (by decide)))
    · refine ⟨10, 11, _, _, by decide, by decide, o_voice_1_3 m hh x h8 e12 ca9, fun m' e => ?_⟩
      subst e
      exact (p_voice_1_3 _ hh x (m 13 hh) h8 (by rw [e69]; exact ek) (by rw [e69]; exact e13.symm) (by rw [e69]; exact hM)).mono (RS_w (fun m2 q => by rw [q]; exact key [13, 11, 20, 10, 12] (by decide)))
    · refine ⟨10, 11, _, _, by decide, by decide, o_voice_2_0 m hh x h8 e12 ca9, fun m' e => ?_⟩
      subst e
      exact (p_voice_2_0 _ hh x (m 13 hh) h8 (by rw [e69]; exact ek) (by rw [e69]; exact e13.symm) (by rw [e69]; exact hM)).mono (RS_w (fun m2 q => by rw [q]; exact key [10] (by decide)))
    · refine ⟨10, 11, _, _, by decide, by decide, o_voice_2_1 m hh x h8 e12 ca9, fun m' e => ?_⟩
      subst e
      exact (p_voice_2_1 _ hh x (m 13 hh) h8 (by rw [e69]; exact ek) (by rw [e69]; exact e13.symm) (by rw [e69]; exact hM)).mono (RS_w (fun m2 q => by rw [q]; exact key [30, 11, 10, 12] (by decide)))
    · refine ⟨10, 11, _, _, by decide, by decide, o_voice_2_2 m hh x h8 e12 ca9, fun m' e => ?_⟩
      subst e
      exact (p_voice_2_2 _ hh x (m 13 hh) h8 (by rw [e69]; exact ek) (by rw [e69]; exact e13.symm) (by rw [e69]; exact hM)).mono (RS_w (fun m2 q => by rw [q]; exact key [12] (by decide)))
    · refine ⟨10, 11, _, _, by decide, by decide, o_voice_2_3 m hh x h8 e12 ca9, fun m' e => ?_⟩
      subst e
      exact (p_voice_2_3 _ hh x (m 13 hh) h8 (by rw [e69]; exact ek) (by rw [e69]; exact e13.symm) (by rw [e69]; exact hM)).mono (RS_w (fun m2 q => by rw [q]; exact key [13, 30, 11, 10, 12, 12] (by decide)))
    · refine ⟨10, 11, _, _, by decide, by decide, o_voice_3_0 m hh x h8 e12 ca9, fun m' e => ?_⟩
      subst e
      exact (p_voice_3_0 _ hh x (m 13 hh) h8 (by rw [e69]; exact ek) (by rw [e69]; exact e13.symm) (by rw [e69]; exact hM)).mono (RS_w (fun m2 q => by rw [q]; exact key [10] (by decide)))
    · refine ⟨10, 11, _, _, by decide, by decide, o_voice_3_1 m hh x h8 e12 ca9, fun m' e => ?_⟩
      subst e
      exact (p_voice_3_1 _ hh x (m 13 hh) h8 (by rw [e69]; exact ek) (by rw [e69]; exact e13.symm) (by rw [e69]; exact hM)).mono (RS_w (fun m2 q => by rw [q]; exact key [11, 10] (by decide)))
    · refine ⟨10, 11, _, _, by decide, by decide, o_voice_3_2 m hh x h8 e12 ca9, fun m' e => ?_⟩
      subst e
      exact (p_voice_3_2 _ hh x (m 13 hh) h8 (by rw [e69]; exact ek) (by rw [e69]; exact e13.symm) (by rw [e69]; exact hM)).mono (RS_w (fun m2 q => by rw [q]; exact key [40, 12] (by decide)))
    · refine ⟨10, 11, _, _, by decide, by decide, o_voice_3_3 m hh x h8 e12 ca9, fun m' e => ?_⟩
      subst e
      exact (p_voice_3_3 _ hh x (m 13 hh) h8 (by rw [e69]; exact ek) (by rw [e69]; exact e13.symm) (by rw [e69]; exact hM)).mono (RS_w (fun m2 q => by rw [q]; exact key [13, 11, 10, 40, 12] (by decide)))
    · refine ⟨10, 11, _, _, by decide, by decide, o_voice_4_0 m hh x h8 e12 ca9, fun m' e => ?_⟩
      subst e
      exact (p_voice_4_0 _ hh x (m 13 hh) h8 (by rw [e69]; exact ek) (by rw [e69]; exact e13.symm) (by rw [e69]; exact hM)).mono (RS_w (fun m2 q => by rw [q]; exact key [20, 10] (by decide)))
    · refine ⟨10, 11, _, _, by decide, by decide, o_voice_4_1 m hh x h8 e12 ca9, fun m' e => ?_⟩
      subst e
      exact (p_voice_4_1 _ hh x (m 13 hh) h8 (by rw [e69]; exact ek) (by rw [e69]; exact e13.symm) (by rw [e69]; exact hM)).mono (RS_w (fun m2 q => by rw [q]; exact key [11, 20, 10] (by decide)))
    · refine ⟨10, 11, _, _, by decide, by decide, o_voice_4_2 m hh x h8 e12 ca9, fun m' e => ?_⟩
      subst e
      exact (p_voice_4_2 _ hh x (m 13 hh) h8 (by rw [e69]; exact ek) (by rw [e69]; exact e13.symm) (by rw [e69]; exact hM)).mono (RS_w (fun m2 q => by rw [q]; exact key [12] (by decide)))
    · refine ⟨10, 11, _, _, by decide, by decide, o_voice_4_3 m hh x h8 e12 ca9, fun m' e => ?_⟩
      subst e
      exact (p_voice_4_3 _ hh x (m 13 hh) h8 (by rw [e69]; exact ek) (by rw [e69]; exact e13.symm) (by rw [e69]; exact hM)).mono (RS_w (fun m2 q => by rw [q]; exact key [50, 13, 11, 20, 10, 12, 20, 10] (by decide)))
    · refine ⟨10, 11, _, _, by decide, by decide, o_voice_5_0 m hh x h8 e12 ca9, fun m' e => ?_⟩
      subst e
      exact (p_voice_5_0 _ hh x (m 13 hh) h8 (by rw [e69]; exact ek) (by rw [e69]; exact e13.symm) (by rw [e69]; exact hM)).mono (RS_w (fun m2 q => by rw [q]; exact key [10] (by decide)))
    · refine ⟨10, 11, _, _, by decide, by decide, o_voice_5_1 m hh x h8 e12 ca9, fun m' e => ?_⟩
      subst e
      exact (p_voice_5_1 _ hh x (m 13 hh) h8 (by rw [e69]; exact ek) (by rw [e69]; exact e13.symm) (by rw [e69]; exact hM)).mono (RS_w (fun m2 q => by rw [q]; exact key [60, 30, 11, 10, 12] (by decide)))
    · refine ⟨10, 11, _, _, by decide, by decide, o_voice_5_2 m hh x h8 e12 ca9, fun m' e => ?_⟩
      subst e
      exact (p_voice_5_2 _ hh x (m 13 hh) h8 (by rw [e69]; exact ek) (by rw [e69]; exact e13.symm) (by rw [e69]; exact hM)).mono (RS_w (fun m2 q => by rw [q]; exact key [12] (by decide)))
    · refine ⟨10, 11, _, _, by decide, by decide, o_voice_5_3 m hh x h8 e12 ca9, fun m' e => ?_⟩
      subst e
      exact (p_voice_5_3 _ hh x (m 13 hh) h8 (by rw [e69]; exact ek) (by rw [e69]; exact e13.symm) (by rw [e69]; exact hM)).mono (RS_w (fun m2 q => by rw [q]; exact key [13, 60, 30, 11, 10, 12, 12] (by decide)))
    · refine ⟨10, 11, _, _, by decide, by decide, o_voice_6_0 m hh x h8 e12 ca9, fun m' e => ?_⟩
      subst e
      exact (p_voice_6_0 _ hh x (m 13 hh) h8 (by rw [e69]; exact ek) (by rw [e69]; exact e13.symm) (by rw [e69]; exact hM)).mono (RS_w (fun m2 q => by rw [q]; exact key [10] (by decide)))
    · refine ⟨10, 11, _, _, by decide, by decide, o_voice_6_1 m hh x h8 e12 ca9, fun m' e => ?_⟩
      subst e
      exact (p_voice_6_1 _ hh x (m 13 hh) h8 (by rw [e69]; exact ek) (by rw [e69]; exact e13.symm) (by rw [e69]; exact hM)).mono (RS_w (fun m2 q => by rw [q]; exact key [11, 10] (by decide)))
    · refine ⟨10, 11, _, _, by decide, by decide, o_voice_6_2 m hh x h8 e12 ca9, fun m' e => ?_⟩
      subst e
      exact (p_voice_6_2 _ hh x (m 13 hh) h8 (by rw [e69]; exact ek) (by rw [e69]; exact e13.symm) (by rw [e69]; exact hM)).mono (RS_w (fun m2 q => by rw [q]; exact key [70, 40, 12] (by decide)))
    · refine ⟨10, 11, _, _, by decide, by decide, o_voice_6_3 m hh x h8 e12 ca9, fun m' e => ?_⟩
      subst e
      exact (p_voice_6_3 _ hh x (m 13 hh) h8 (by rw [e69]; exact ek) (by rw [e69]; exact e13.symm) (by rw [e69]; exact hM)).mono (RS_w (fun m2 q => by rw [q]; exact key [71, 11, 10, 13, 11, 10, 70, 40, 12] (by decide)))
  · exact OPr_err I (by decide) (by decide) (by decide) (e_voice m a b x (by rw [hT.1]; exact c)) (f_voice _ a b x (fun q => c ⟨(isH_c wf).mpr ((isH_m wf).mp (by have := q.1; rw [errC_o (by decide)] at this; exact this)), q.2⟩))
end O31
