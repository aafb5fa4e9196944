theorem w01 {w : Int32} (h0 : 0 ≤ w) (h1 : w ≤ 1) (h : w ≠ 0) : w = 1 := by
  obtain ⟨j, hj, rfl⟩ := (rngN (x := w) 1 (by decide)).mp ⟨h0, h1⟩
  rcases (show j = 0 ∨ j = 1 by omega) with rfl | rfl
  · exact absurd rfl h
  · rfl
section O1
variable {l : Launch} {g : Gv}
set_option maxRecDepth 100000 in
theorem c_inL (m : Mem) (x a b : Int64) : JM l g 0 mX12_in [.long x, .long a, .long b] m (RF (some (.int (bz (a ≤ x ∧ x ≤ b)))) m) := by
  refine JM_of (ls := [some (.long x), none, some (.long a), none, some (.long b), none]) pn_X12 rfl rfl ?_
  refine j_lload0 1 dX12_in_0 rfl ?_
  refine j_lload2 2 dX12_in_1 rfl ?_
  refine j_lcmp 3 dX12_in_2 rfl ?_
  refine j_if_lt 17 6 dX12_in_3 rfl rfl (fun h3 => ?_) (fun h3 => ?_)
  · refine j_iconst 18 (v := 0) dX12_in_17 rfl rfl ?_
    refine j_zret (by first | exact bz_01 | exact Or.inl rfl | exact Or.inr rfl | assumption) dX12_in_18 rfl ?_
    first | exact rf_f (fun q => absurd q.1 (Int64.not_le.mpr ((lg_cmp_lt _ _).mp h3))) | exact rf_f (fun q => absurd q.2 (Int64.not_le.mpr ((lg_cmp_gt _ _).mp h10))) | exact rf_t ⟨Int64.not_lt.mp (fun q => h3 ((lg_cmp_lt _ _).mpr q)), Int64.not_lt.mp (fun q => h10 ((lg_cmp_gt _ _).mpr q))⟩
  · refine j_lload0 7 dX12_in_6 rfl ?_
    refine j_lload4 9 dX12_in_7 rfl ?_
    refine j_lcmp 10 dX12_in_9 rfl ?_
    refine j_if_gt 17 13 dX12_in_10 rfl rfl (fun h10 => ?_) (fun h10 => ?_)
    · refine j_iconst 18 (v := 0) dX12_in_17 rfl rfl ?_
      refine j_zret (by first | exact bz_01 | exact Or.inl rfl | exact Or.inr rfl | assumption) dX12_in_18 rfl ?_
      first | exact rf_f (fun q => absurd q.1 (Int64.not_le.mpr ((lg_cmp_lt _ _).mp h3))) | exact rf_f (fun q => absurd q.2 (Int64.not_le.mpr ((lg_cmp_gt _ _).mp h10))) | exact rf_t ⟨Int64.not_lt.mp (fun q => h3 ((lg_cmp_lt _ _).mpr q)), Int64.not_lt.mp (fun q => h10 ((lg_cmp_gt _ _).mpr q))⟩
    · refine j_iconst 14 (v := 1) dX12_in_13 rfl rfl ?_
      refine j_goto 18 dX12_in_14 rfl ?_
      refine j_zret (by first | exact bz_01 | exact Or.inl rfl | exact Or.inr rfl | assumption) dX12_in_18 rfl ?_
      first | exact rf_f (fun q => absurd q.1 (Int64.not_le.mpr ((lg_cmp_lt _ _).mp h3))) | exact rf_f (fun q => absurd q.2 (Int64.not_le.mpr ((lg_cmp_gt _ _).mp h10))) | exact rf_t ⟨Int64.not_lt.mp (fun q => h3 ((lg_cmp_lt _ _).mpr q)), Int64.not_lt.mp (fun q => h10 ((lg_cmp_gt _ _).mpr q))⟩
-- sill
def cSill (s w v : Int32) : Prop := (0 ≤ s ∧ s ≤ 15) ∧ ((w = 0 ∧ 0 ≤ v ∧ v ≤ 9) ∨ (w = 1 ∧ 0 ≤ v ∧ v ≤ 15))
set_option maxRecDepth 100000 in
theorem e_sill (m : Mem) (s w v : Int32) (c : ¬ cSill s w v) : JM l g 2 mX11_sill [rf g 0, .int s, .int w, .int v] m (RF (some (.int (-1000000001))) (errC 1 m)) := by
  refine JM_of (ls := [some (rf g 0), some (.int s), some (.int w), some (.int v), none]) pn_X11 rfl rfl ?_
  refine j_iload1 1 dX11_sill_0 rfl ?_
  refine j_st1f 4 dX11_sill_1 rfl rfl cl_X11_77 rfl (c_isSill m s) ?_
  refine j_if_ne_bz 14 7 dX11_sill_4 rfl rfl (fun h4 => ?_) (fun h4 => ?_)
  · refine j_iload2 15 dX11_sill_14 rfl ?_
    refine j_if_ne 52 18 dX11_sill_15 rfl rfl (fun h15 => ?_) (fun h15 => ?_)
    · refine j_iload2 53 dX11_sill_52 rfl ?_
      refine j_iconst 54 (v := 1) dX11_sill_53 rfl rfl ?_
      refine j_cmp_ne 88 57 dX11_sill_54 rfl rfl (fun h54 => ?_) (fun h54 => ?_)
      · refine j_aload0 89 dX11_sill_88 rfl ?_
        refine j_ldc 91 dX11_sill_89 rfl kc_X11_81 ?_
        refine j_vi1f 94 dX11_sill_91 rfl rfl cl_X11_82 rfl rfl (c_err1 m) ?_
        refine j_iret dX11_sill_94 rfl ?_
        exact ⟨rfl, rfl⟩
      · refine j_iload3 58 dX11_sill_57 rfl ?_
        refine j_st1f 61 dX11_sill_58 rfl rfl cl_X11_77 rfl (c_isSill m v) ?_
        refine j_if_eq_bz 88 64 dX11_sill_61 rfl rfl (fun h61 => ?_) (fun h61 => ?_)
        · refine j_aload0 89 dX11_sill_88 rfl ?_
          refine j_ldc 91 dX11_sill_89 rfl kc_X11_81 ?_
          refine j_vi1f 94 dX11_sill_91 rfl rfl cl_X11_82 rfl rfl (c_err1 m) ?_
          refine j_iret dX11_sill_94 rfl ?_
          exact ⟨rfl, rfl⟩
        · exact absurd ⟨h4, Or.inr ⟨h54, h61⟩⟩ c
    · refine j_iload3 19 dX11_sill_18 rfl ?_
      refine j_iconst 20 (v := 0) dX11_sill_19 rfl rfl ?_
      refine j_bipush 22 (v := 9) dX11_sill_20 rfl rfl ?_
      refine j_st3f 25 dX11_sill_22 rfl rfl cl_X11_86 rfl (c_within m v 0 9) ?_
      refine j_if_eq_bz 52 28 dX11_sill_25 rfl rfl (fun h25 => ?_) (fun h25 => ?_)
      · refine j_iload2 53 dX11_sill_52 rfl ?_
        refine j_iconst 54 (v := 1) dX11_sill_53 rfl rfl ?_
        refine j_cmp_ne 88 57 dX11_sill_54 rfl rfl (fun h54 => ?_) (fun h54 => ?_)
        · refine j_aload0 89 dX11_sill_88 rfl ?_
          refine j_ldc 91 dX11_sill_89 rfl kc_X11_81 ?_
          refine j_vi1f 94 dX11_sill_91 rfl rfl cl_X11_82 rfl rfl (c_err1 m) ?_
          refine j_iret dX11_sill_94 rfl ?_
          exact ⟨rfl, rfl⟩
        · refine j_iload3 58 dX11_sill_57 rfl ?_
          refine j_st1f 61 dX11_sill_58 rfl rfl cl_X11_77 rfl (c_isSill m v) ?_
          refine j_if_eq_bz 88 64 dX11_sill_61 rfl rfl (fun h61 => ?_) (fun h61 => ?_)
          · refine j_aload0 89 dX11_sill_88 rfl ?_
            refine j_ldc 91 dX11_sill_89 rfl kc_X11_81 ?_
            refine j_vi1f 94 dX11_sill_91 rfl rfl cl_X11_82 rfl rfl (c_err1 m) ?_
            refine j_iret dX11_sill_94 rfl ?_
            exact ⟨rfl, rfl⟩
          · exact absurd ⟨h4, Or.inr ⟨h54, h61⟩⟩ c
      · exact absurd ⟨h4, Or.inl ⟨h15, h25⟩⟩ c
  · refine j_aload0 8 dX11_sill_7 rfl ?_
    refine j_ldc 10 dX11_sill_8 rfl kc_X11_81 ?_
    refine j_vi1f 13 dX11_sill_10 rfl rfl cl_X11_82 rfl rfl (c_err1 m) ?_
    refine j_iret dX11_sill_13 rfl ?_
    exact ⟨rfl, rfl⟩
set_option maxRecDepth 100000 in
theorem f_sill (m : Mem) (s w v : Int32) (c : ¬ cSill s w v) : JM l g 2 mX12_sill [rf g 68, .int s, .int w, .int v] m (RF (some (.int (-1000000001))) (errM 1 m)) := by
  refine JM_of (ls := [some (rf g 68), some (.int s), some (.int w), some (.int v)]) pn_X12 rfl rfl ?_
  refine j_iload1 1 dX12_sill_0 rfl ?_
  refine j_st1f 4 dX12_sill_1 rfl rfl cl_X12_174 rfl (c_misSill m s) ?_
  refine j_if_eq_bz 56 7 dX12_sill_4 rfl rfl (fun h4 => ?_) (fun h4 => ?_)
  · refine j_aload0 57 dX12_sill_56 rfl ?_
    refine j_iconst 58 (v := 1) dX12_sill_57 rfl rfl ?_
    refine j_vi1f 61 dX12_sill_58 rfl rfl cl_X12_126 rfl rfl (c_finds1 m) ?_
    refine j_iret dX12_sill_61 rfl ?_
    exact ⟨rfl, rfl⟩
  · refine j_iload2 8 dX12_sill_7 rfl ?_
    refine j_i2l 9 dX12_sill_8 rfl ?_
    refine j_lconst 10 (v := 0) dX12_sill_9 rfl rfl ?_
    refine j_lconst 11 (v := 1) dX12_sill_10 rfl rfl ?_
    refine j_st3f 14 dX12_sill_11 rfl rfl cl_X12_47 rfl (c_in m w 0 1) ?_
    refine j_if_eq_bz 56 17 dX12_sill_14 rfl rfl (fun h14 => ?_) (fun h14 => ?_)
    · refine j_aload0 57 dX12_sill_56 rfl ?_
      refine j_iconst 58 (v := 1) dX12_sill_57 rfl rfl ?_
      refine j_vi1f 61 dX12_sill_58 rfl rfl cl_X12_126 rfl rfl (c_finds1 m) ?_
      refine j_iret dX12_sill_61 rfl ?_
      exact ⟨rfl, rfl⟩
    · refine j_iload3 18 dX12_sill_17 rfl ?_
      refine j_i2l 19 dX12_sill_18 rfl ?_
      refine j_lconst 20 (v := 0) dX12_sill_19 rfl rfl ?_
      refine j_iload2 21 dX12_sill_20 rfl ?_
      refine j_if_ne 30 24 dX12_sill_21 rfl rfl (fun h21 => ?_) (fun h21 => ?_)
      · refine j_ldc2 33 dX12_sill_30 rfl kl_X12_51 ?_
        refine j_st3f 36 dX12_sill_33 rfl rfl cl_X12_47 rfl (c_inL m _ _ _) ?_
        refine j_if_eq_bz 56 39 dX12_sill_36 rfl rfl (fun h36 => ?_) (fun h36 => ?_)
        · refine j_aload0 57 dX12_sill_56 rfl ?_
          refine j_iconst 58 (v := 1) dX12_sill_57 rfl rfl ?_
          refine j_vi1f 61 dX12_sill_58 rfl rfl cl_X12_126 rfl rfl (c_finds1 m) ?_
          refine j_iret dX12_sill_61 rfl ?_
          exact ⟨rfl, rfl⟩
        · first | exact absurd (show cSill s w v from ⟨h4, Or.inr ⟨w01 h14.1 h14.2 h21, (le64 (x := 0)).mp h36.1, (le64 (z := 15)).mp h36.2⟩⟩) c | exact absurd (show cSill s w v from ⟨h4, Or.inl ⟨h21, (le64 (x := 0)).mp h36.1, (le64 (z := 9)).mp h36.2⟩⟩) c
      · refine j_ldc2 27 dX12_sill_24 rfl kl_X12_177 ?_
        refine j_goto 33 dX12_sill_27 rfl ?_
        refine j_st3f 36 dX12_sill_33 rfl rfl cl_X12_47 rfl (c_inL m _ _ _) ?_
        refine j_if_eq_bz 56 39 dX12_sill_36 rfl rfl (fun h36 => ?_) (fun h36 => ?_)
        · refine j_aload0 57 dX12_sill_56 rfl ?_
          refine j_iconst 58 (v := 1) dX12_sill_57 rfl rfl ?_
          refine j_vi1f 61 dX12_sill_58 rfl rfl cl_X12_126 rfl rfl (c_finds1 m) ?_
          refine j_iret dX12_sill_61 rfl ?_
          exact ⟨rfl, rfl⟩
        · first | exact absurd (show cSill s w v from ⟨h4, Or.inr ⟨w01 h14.1 h14.2 h21, (le64 (x := 0)).mp h36.1, (le64 (z := 15)).mp h36.2⟩⟩) c | exact absurd (show cSill s w v from ⟨h4, Or.inl ⟨h21, (le64 (x := 0)).mp h36.1, (le64 (z := 9)).mp h36.2⟩⟩) c
set_option maxRecDepth 100000 in
theorem o_sill0 (m : Mem) (s : Nat) (v : Int32) (hs : s < 16) (hv : 0 ≤ v ∧ v ≤ 9) : JM l g 2 mX11_sill [rf g 0, .int (nI s), .int 0, .int v] m (RF (some (.int (m 10 s))) (up2 m 10 s v)) := by
  refine JM_of (ls := [some (rf g 0), some (.int (nI s)), some (.int 0), some (.int v), none]) pn_X11 rfl rfl ?_
  refine j_iload1 1 dX11_sill_0 rfl ?_
  refine j_st1f 4 dX11_sill_1 rfl rfl cl_X11_77 rfl (c_isSill m _) ?_
  refine j_if_ne_bz 14 7 dX11_sill_4 rfl rfl (fun h4 => ?_) (fun h4 => absurd ((rngN 15 (by decide)).mpr ⟨s, by omega, rfl⟩) h4)
  refine j_iload2 15 dX11_sill_14 rfl ?_
  refine j_if_ne 52 18 dX11_sill_15 rfl rfl (fun h15 => absurd h15 (by decide)) (fun h15 => ?_)
  refine j_iload3 19 dX11_sill_18 rfl ?_
  refine j_iconst 20 (v := 0) dX11_sill_19 rfl rfl ?_
  refine j_bipush 22 (v := 9) dX11_sill_20 rfl rfl ?_
  refine j_st3f 25 dX11_sill_22 rfl rfl cl_X11_86 rfl (c_within m v 0 9) ?_
  refine j_if_eq_bz 52 28 dX11_sill_25 rfl rfl (fun h25 => absurd hv h25) (fun h25 => ?_)
  refine j_aload0 29 dX11_sill_28 rfl ?_
  refine j_getR 32 dX11_sill_29 rfl fl_X11_35 rfl rfl ?_
  refine j_getR 35 dX11_sill_32 rfl fl_X11_90 rfl rfl ?_
  refine j_iload1 36 dX11_sill_35 rfl ?_
  refine j_iald 37 _ rfl hs dX11_sill_36 rfl rfl ?_
  refine j_istore4 39 dX11_sill_37 rfl rfl rfl ?_
  refine j_aload0 40 dX11_sill_39 rfl ?_
  refine j_getR 43 dX11_sill_40 rfl fl_X11_35 rfl rfl ?_
  refine j_getR 46 dX11_sill_43 rfl fl_X11_90 rfl rfl ?_
  refine j_iload1 47 dX11_sill_46 rfl ?_
  refine j_iload3 48 dX11_sill_47 rfl ?_
  refine j_iast 49 _ rfl hs dX11_sill_48 rfl rfl ?_
  refine j_iload4 51 dX11_sill_49 rfl ?_
  refine j_iret dX11_sill_51 rfl ?_
  exact ⟨rfl, rfl⟩
set_option maxRecDepth 100000 in
theorem p_sill0 (m : Mem) (s : Nat) (v : Int32) (hs : s < 16) (hv : 0 ≤ v ∧ v ≤ 9) : JM l g 2 mX12_sill [rf g 68, .int (nI s), .int 0, .int v] m (RF (some (.int (m 69 (8 + s)))) (up2 m 69 (8 + s) v)) := by
  refine JM_of (ls := [some (rf g 68), some (.int (nI s)), some (.int 0), some (.int v)]) pn_X12 rfl rfl ?_
  refine j_iload1 1 dX12_sill_0 rfl ?_
  refine j_st1f 4 dX12_sill_1 rfl rfl cl_X12_174 rfl (c_misSill m _) ?_
  refine j_if_eq_bz 56 7 dX12_sill_4 rfl rfl (fun h4 => absurd ((rngN 15 (by decide)).mpr ⟨s, by omega, rfl⟩) h4) (fun h4 => ?_)
  refine j_iload2 8 dX12_sill_7 rfl ?_
  refine j_i2l 9 dX12_sill_8 rfl ?_
  refine j_lconst 10 (v := 0) dX12_sill_9 rfl rfl ?_
  refine j_lconst 11 (v := 1) dX12_sill_10 rfl rfl ?_
  refine j_st3f 14 dX12_sill_11 rfl rfl cl_X12_47 rfl (c_in m _ 0 1) ?_
  refine j_if_eq_bz 56 17 dX12_sill_14 rfl rfl (fun h14 => absurd (by decide) h14) (fun h14 => ?_)
  refine j_iload3 18 dX12_sill_17 rfl ?_
  refine j_i2l 19 dX12_sill_18 rfl ?_
  refine j_lconst 20 (v := 0) dX12_sill_19 rfl rfl ?_
  refine j_iload2 21 dX12_sill_20 rfl ?_
  refine j_if_ne 30 24 dX12_sill_21 rfl rfl (fun h21 => absurd h21 (by decide)) (fun h21 => ?_)
  refine j_ldc2 27 dX12_sill_24 rfl kl_X12_177 ?_
  refine j_goto 33 dX12_sill_27 rfl ?_
  refine j_st3f 36 dX12_sill_33 rfl rfl cl_X12_47 rfl (c_in m v 0 9) ?_
  refine j_if_eq_bz 56 39 dX12_sill_36 rfl rfl (fun h36 => absurd hv h36) (fun h36 => ?_)
  refine j_aload0 40 dX12_sill_39 rfl ?_
  refine j_bipush 42 (v := 8) dX12_sill_40 rfl rfl ?_
  refine j_bipush 44 (v := 16) dX12_sill_42 rfl rfl ?_
  refine j_iload2 45 dX12_sill_44 rfl ?_
  refine j_imul 46 dX12_sill_45 rfl ?_
  refine j_iadd 47 dX12_sill_46 rfl ?_
  refine j_top (z := nI 8) (by decide) ?_
  refine j_iload1 48 dX12_sill_47 rfl ?_
  refine j_iaddN 49 dX12_sill_48 rfl ?_
  refine j_iload3 50 dX12_sill_49 rfl ?_
  refine j_vi2f 53 dX12_sill_50 rfl rfl cl_X12_179 rfl rfl (c_becomes m (8 + s) v (by omega)) ?_
  refine j_goto 61 dX12_sill_53 rfl ?_
  refine j_iret dX12_sill_61 rfl ?_
  exact ⟨rfl, rfl⟩
set_option maxRecDepth 100000 in
theorem o_sill1 (m : Mem) (s : Nat) (v : Int32) (hs : s < 16) (hv : 0 ≤ v ∧ v ≤ 15) : JM l g 2 mX11_sill [rf g 0, .int (nI s), .int 1, .int v] m (RF (some (.int (m 11 s))) (up2 m 11 s v)) := by
  refine JM_of (ls := [some (rf g 0), some (.int (nI s)), some (.int 1), some (.int v), none]) pn_X11 rfl rfl ?_
  refine j_iload1 1 dX11_sill_0 rfl ?_
  refine j_st1f 4 dX11_sill_1 rfl rfl cl_X11_77 rfl (c_isSill m _) ?_
  refine j_if_ne_bz 14 7 dX11_sill_4 rfl rfl (fun h4 => ?_) (fun h4 => absurd ((rngN 15 (by decide)).mpr ⟨s, by omega, rfl⟩) h4)
  refine j_iload2 15 dX11_sill_14 rfl ?_
  refine j_if_ne 52 18 dX11_sill_15 rfl rfl (fun h15 => ?_) (fun h15 => absurd h15 (by decide))
  refine j_iload2 53 dX11_sill_52 rfl ?_
  refine j_iconst 54 (v := 1) dX11_sill_53 rfl rfl ?_
  refine j_cmp_ne 88 57 dX11_sill_54 rfl rfl (fun h54 => absurd h54 (by decide)) (fun h54 => ?_)
  refine j_iload3 58 dX11_sill_57 rfl ?_
  refine j_st1f 61 dX11_sill_58 rfl rfl cl_X11_77 rfl (c_isSill m v) ?_
  refine j_if_eq_bz 88 64 dX11_sill_61 rfl rfl (fun h61 => absurd hv h61) (fun h61 => ?_)
  refine j_aload0 65 dX11_sill_64 rfl ?_
  refine j_getR 68 dX11_sill_65 rfl fl_X11_35 rfl rfl ?_
  refine j_getR 71 dX11_sill_68 rfl fl_X11_93 rfl rfl ?_
  refine j_iload1 72 dX11_sill_71 rfl ?_
  refine j_iald 73 _ rfl hs dX11_sill_72 rfl rfl ?_
  refine j_istore4 75 dX11_sill_73 rfl rfl rfl ?_
  refine j_aload0 76 dX11_sill_75 rfl ?_
  refine j_getR 79 dX11_sill_76 rfl fl_X11_35 rfl rfl ?_
  refine j_getR 82 dX11_sill_79 rfl fl_X11_93 rfl rfl ?_
  refine j_iload1 83 dX11_sill_82 rfl ?_
  refine j_iload3 84 dX11_sill_83 rfl ?_
  refine j_iast 85 _ rfl hs dX11_sill_84 rfl rfl ?_
  refine j_iload4 87 dX11_sill_85 rfl ?_
  refine j_iret dX11_sill_87 rfl ?_
  exact ⟨rfl, rfl⟩
set_option maxRecDepth 100000 in
theorem p_sill1 (m : Mem) (s : Nat) (v : Int32) (hs : s < 16) (hv : 0 ≤ v ∧ v ≤ 15) : JM l g 2 mX12_sill [rf g 68, .int (nI s), .int 1, .int v] m (RF (some (.int (m 69 (24 + s)))) (up2 m 69 (24 + s) v)) := by
  refine JM_of (ls := [some (rf g 68), some (.int (nI s)), some (.int 1), some (.int v)]) pn_X12 rfl rfl ?_
  refine j_iload1 1 dX12_sill_0 rfl ?_
  refine j_st1f 4 dX12_sill_1 rfl rfl cl_X12_174 rfl (c_misSill m _) ?_
  refine j_if_eq_bz 56 7 dX12_sill_4 rfl rfl (fun h4 => absurd ((rngN 15 (by decide)).mpr ⟨s, by omega, rfl⟩) h4) (fun h4 => ?_)
  refine j_iload2 8 dX12_sill_7 rfl ?_
  refine j_i2l 9 dX12_sill_8 rfl ?_
  refine j_lconst 10 (v := 0) dX12_sill_9 rfl rfl ?_
  refine j_lconst 11 (v := 1) dX12_sill_10 rfl rfl ?_
  refine j_st3f 14 dX12_sill_11 rfl rfl cl_X12_47 rfl (c_in m _ 0 1) ?_
  refine j_if_eq_bz 56 17 dX12_sill_14 rfl rfl (fun h14 => absurd (by decide) h14) (fun h14 => ?_)
  refine j_iload3 18 dX12_sill_17 rfl ?_
  refine j_i2l 19 dX12_sill_18 rfl ?_
  refine j_lconst 20 (v := 0) dX12_sill_19 rfl rfl ?_
  refine j_iload2 21 dX12_sill_20 rfl ?_
  refine j_if_ne 30 24 dX12_sill_21 rfl rfl (fun h21 => ?_) (fun h21 => absurd h21 (by decide))
  refine j_ldc2 33 dX12_sill_30 rfl kl_X12_51 ?_
  refine j_st3f 36 dX12_sill_33 rfl rfl cl_X12_47 rfl (c_in m v 0 15) ?_
  refine j_if_eq_bz 56 39 dX12_sill_36 rfl rfl (fun h36 => absurd hv h36) (fun h36 => ?_)
  refine j_aload0 40 dX12_sill_39 rfl ?_
  refine j_bipush 42 (v := 8) dX12_sill_40 rfl rfl ?_
  refine j_bipush 44 (v := 16) dX12_sill_42 rfl rfl ?_
  refine j_iload2 45 dX12_sill_44 rfl ?_
  refine j_imul 46 dX12_sill_45 rfl ?_
  refine j_iadd 47 dX12_sill_46 rfl ?_
  refine j_top (z := nI 24) (by decide) ?_
  refine j_iload1 48 dX12_sill_47 rfl ?_
  refine j_iaddN 49 dX12_sill_48 rfl ?_
  refine j_iload3 50 dX12_sill_49 rfl ?_
  refine j_vi2f 53 dX12_sill_50 rfl rfl cl_X12_179 rfl rfl (c_becomes m (24 + s) v (by omega)) ?_
  refine j_goto 61 dX12_sill_53 rfl ?_
  refine j_iret dX12_sill_61 rfl ?_
  exact ⟨rfl, rfl⟩
theorem op_sill {m : Mem} (I : INV m) (s w v : Int32) : OPr l g mX11_sill mX12_sill [.int s, .int w, .int v] m := by
  by_cases c : cSill s w v
  · obtain ⟨hs, c⟩ := c
    obtain ⟨j, hj, rfl⟩ := (rngN 15 (by decide)).mp hs
    obtain ⟨⟨wf, hd, hT, hP⟩, -⟩ := id I
    rcases c with ⟨rfl, hv⟩ | ⟨rfl, hv⟩
    · have hnb : nb v 10 := by obtain ⟨k, hk, ek⟩ := (rngN 9 (by decide)).mp hv; exact ⟨k, by omega, ek⟩
      refine ⟨2, 2, _, _, by decide, by decide, o_sill0 m j v (by omega) hv, fun m' e => ?_⟩
      subst e
      have e69 : up2 m 10 j v 69 = m 69 := up2_r (by decide)
      have hq := p_sill0 (l := l) (g := g) (up2 m 10 j v) j v (by omega) hv
      rw [e69, ← hT.2.2.2.2.2.1 j (by omega)] at hq
      refine hq.mono (RS_w (fun m2 q => ?_))
      subst q
      have r69 : up2 (up2 m 10 j v) 69 (8 + j) v 69 = upd1 (m 69) (8 + j) v := by rw [up2_row69, e69]
      refine INV_new I (fun b hb => ?_) ((up2_r (by decide)).trans (up2_r (by decide))) ⟨by rw [r69]; exact WF_sun' wf (by omega) hnb, ?_, ?_, ?_⟩
      · exact (up2_r (fun z => by subst z; exact absurd hb (by decide))).trans (up2_r (fun z => by subst z; exact absurd hb (by decide)))
      · rw [r69]; show nb (if 1 = 8 + j then v else _) _; rw [if_neg (by omega)]; exact hd
      · rw [r69]; exact TR_same (TR_sun hT (by omega)) (fun b b1 b2 => up2_r (by omega))
      · rw [r69]; exact PR_same (PR_d hP (fun k hk => if_neg (by omega))) (fun b hb => (up2_r (by omega)).trans (up2_r (by omega)))
    · have hnb : nb v 16 := by obtain ⟨k, hk, ek⟩ := (rngN 15 (by decide)).mp hv; exact ⟨k, by omega, ek⟩
      refine ⟨2, 2, _, _, by decide, by decide, o_sill1 m j v (by omega) hv, fun m' e => ?_⟩
      subst e
      have e69 : up2 m 11 j v 69 = m 69 := up2_r (by decide)
      have hq := p_sill1 (l := l) (g := g) (up2 m 11 j v) j v (by omega) hv
      rw [e69, ← hT.2.2.2.2.2.2.1 j (by omega)] at hq
      refine hq.mono (RS_w (fun m2 q => ?_))
      subst q
      have r69 : up2 (up2 m 11 j v) 69 (24 + j) v 69 = upd1 (m 69) (24 + j) v := by rw [up2_row69, e69]
      refine INV_new I (fun b hb => ?_) ((up2_r (by decide)).trans (up2_r (by decide))) ⟨by rw [r69]; exact WF_to' wf (by omega) hnb, ?_, ?_, ?_⟩
      · exact (up2_r (fun z => by subst z; exact absurd hb (by decide))).trans (up2_r (fun z => by subst z; exact absurd hb (by decide)))
      · rw [r69]; show nb (if 1 = 24 + j then v else _) _; rw [if_neg (by omega)]; exact hd
      · rw [r69]; exact TR_same (TR_to hT (by omega)) (fun b b1 b2 => up2_r (by omega))
      · rw [r69]; exact PR_same (PR_d hP (fun k hk => if_neg (by omega))) (fun b hb => (up2_r (by omega)).trans (up2_r (by omega)))
  · exact OPr_err I (by decide) (by decide) (by decide) (e_sill m s w v c) (f_sill _ s w v c)
end O1
