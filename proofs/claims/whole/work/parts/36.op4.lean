theorem outN {w : Int32} {N : Nat} (hN : N < 2 ^ 31) (h : ¬ (0 ≤ w ∧ w ≤ nI N)) : w.toInt < 0 ∨ (N : Int) < w.toInt := by
  by_cases q : w.toInt < 0
  · exact Or.inl q
  · right
    have h1 : 0 ≤ w := Int32.le_iff_toInt_le.mpr (by show (0 : Int32).toInt ≤ _; rw [show (0 : Int32).toInt = 0 from rfl]; omega)
    have h2 : ¬ w ≤ nI N := fun z => h ⟨h1, z⟩
    rw [Int32.le_iff_toInt_le, nI_toInt hN] at h2
    omega
theorem not4 {w : Int32} (h0 : w ≠ 0) (h1 : w ≠ 1) (h2 : w ≠ 2) (h3 : w ≠ 3) : ¬ (0 ≤ w ∧ w ≤ nI 3) := by
  intro q
  obtain ⟨j, hj, rfl⟩ := (rngN 3 (by decide)).mp q
  rcases (show j = 0 ∨ j = 1 ∨ j = 2 ∨ j = 3 by omega) with rfl | rfl | rfl | rfl
  · exact h0 rfl
  · exact h1 rfl
  · exact h2 rfl
  · exact h3 rfl
def vChg (d : Nat → Int32) (h w : Nat) (v : Int32) (r : Nat) : Int32 := if w = 1 then (if r = 3 then v else if r = 4 then (if v = 0 then hf d h 2 else -1) else hf d h r) else if r = 2 + w then v else hf d h r
section O4
variable {l : Launch} {g : Gv}
set_option maxRecDepth 100000 in
theorem c_isOH0 (m : Mem) (v : Int32) : JM l g 2 mX11_isOfHeir [.int 0, .int v] m (RF (some (.int (bz (0 ≤ v ∧ v ≤ 15)))) m) := by
  refine JM_of (ls := [some (.int 0), some (.int v)]) pn_X11 rfl rfl ?_
  refine j_iload0 1 dX11_isOfHeir_0 rfl ?_
  refine j_tabIn 32 dX11_isOfHeir_1 (by decide) (by decide) rfl rfl ?_
  refine j_iload1 33 dX11_isOfHeir_32 rfl ?_
  refine j_st1f 36 dX11_isOfHeir_33 rfl rfl cl_X11_77 rfl (c_isSill m v) ?_
  refine j_zret (by first | exact bz_01 | exact Or.inl rfl | exact Or.inr rfl | assumption) dX11_isOfHeir_36 rfl ?_
  exact ⟨rfl, rfl⟩
set_option maxRecDepth 100000 in
theorem c_isOH1 (m : Mem) (v : Int32) : JM l g 2 mX11_isOfHeir [.int 1, .int v] m (RF (some (.int (bz (0 ≤ v ∧ v ≤ 99)))) m) := by
  refine JM_of (ls := [some (.int 1), some (.int v)]) pn_X11 rfl rfl ?_
  refine j_iload0 1 dX11_isOfHeir_0 rfl ?_
  refine j_tabIn 37 dX11_isOfHeir_1 (by decide) (by decide) rfl rfl ?_
  refine j_iload1 38 dX11_isOfHeir_37 rfl ?_
  refine j_iconst 39 (v := 0) dX11_isOfHeir_38 rfl rfl ?_
  refine j_bipush 41 (v := 99) dX11_isOfHeir_39 rfl rfl ?_
  refine j_st3f 44 dX11_isOfHeir_41 rfl rfl cl_X11_86 rfl (c_within m v 0 99) ?_
  refine j_zret (by first | exact bz_01 | exact Or.inl rfl | exact Or.inr rfl | assumption) dX11_isOfHeir_44 rfl ?_
  exact ⟨rfl, rfl⟩
set_option maxRecDepth 100000 in
theorem c_isOH2 (m : Mem) (v : Int32) : JM l g 2 mX11_isOfHeir [.int 2, .int v] m (RF (some (.int (bz (0 ≤ v ∧ v ≤ 15)))) m) := by
  refine JM_of (ls := [some (.int 2), some (.int v)]) pn_X11 rfl rfl ?_
  refine j_iload0 1 dX11_isOfHeir_0 rfl ?_
  refine j_tabIn 32 dX11_isOfHeir_1 (by decide) (by decide) rfl rfl ?_
  refine j_iload1 33 dX11_isOfHeir_32 rfl ?_
  refine j_st1f 36 dX11_isOfHeir_33 rfl rfl cl_X11_77 rfl (c_isSill m v) ?_
  refine j_zret (by first | exact bz_01 | exact Or.inl rfl | exact Or.inr rfl | assumption) dX11_isOfHeir_36 rfl ?_
  exact ⟨rfl, rfl⟩
set_option maxRecDepth 100000 in
theorem c_isOH3 (m : Mem) (v : Int32) : JM l g 2 mX11_isOfHeir [.int 3, .int v] m (RF (some (.int (bz (0 ≤ v ∧ v ≤ 9999)))) m) := by
  refine JM_of (ls := [some (.int 3), some (.int v)]) pn_X11 rfl rfl ?_
  refine j_iload0 1 dX11_isOfHeir_0 rfl ?_
  refine j_tabIn 45 dX11_isOfHeir_1 (by decide) (by decide) rfl rfl ?_
  refine j_iload1 46 dX11_isOfHeir_45 rfl ?_
  refine j_iconst 47 (v := 0) dX11_isOfHeir_46 rfl rfl ?_
  refine j_sipush 50 (v := 9999) dX11_isOfHeir_47 rfl rfl ?_
  refine j_st3f 53 dX11_isOfHeir_50 rfl rfl cl_X11_86 rfl (c_within m v 0 9999) ?_
  refine j_zret (by first | exact bz_01 | exact Or.inl rfl | exact Or.inr rfl | assumption) dX11_isOfHeir_53 rfl ?_
  exact ⟨rfl, rfl⟩
set_option maxRecDepth 100000 in
theorem c_isOHx (m : Mem) (w v : Int32) (c : ¬ (0 ≤ w ∧ w ≤ nI 3)) : JM l g 2 mX11_isOfHeir [.int w, .int v] m (RF (some (.int 0)) m) := by
  refine JM_of (ls := [some (.int w), some (.int v)]) pn_X11 rfl rfl ?_
  refine j_iload0 1 dX11_isOfHeir_0 rfl ?_
  refine j_tabOut 54 dX11_isOfHeir_1 (outN (by decide) c) rfl ?_
  refine j_iconst 55 (v := 0) dX11_isOfHeir_54 rfl rfl ?_
  refine j_zret (by first | exact bz_01 | exact Or.inl rfl | exact Or.inr rfl | assumption) dX11_isOfHeir_55 rfl ?_
  exact ⟨rfl, rfl⟩
set_option maxRecDepth 100000 in
theorem e_chgh (m : Mem) (h w v : Int32) (hc : ¬ (0 ≤ h ∧ h < m 9 9 ∧ h < 8)) : JM l g 3 mX11_change [rf g 0, .int h, .int w, .int v] m (RF (some (.int (-1000000001))) (errC 1 m)) := by
  refine JM_of (ls := [some (rf g 0), some (.int h), some (.int w), some (.int v), none]) pn_X11 rfl rfl ?_
  refine j_aload0 1 dX11_change_0 rfl ?_
  refine j_iload1 2 dX11_change_1 rfl ?_
  refine j_vi1f 5 dX11_change_2 rfl rfl cl_X11_124 rfl rfl (c_isHeir m h) ?_
  refine j_if_eq_bz 16 8 dX11_change_5 rfl rfl (fun h5 => ?_) (fun h5 => absurd h5 hc)
  refine j_aload0 17 dX11_change_16 rfl ?_
  refine j_ldc 19 dX11_change_17 rfl kc_X11_81 ?_
  refine j_vi1f 22 dX11_change_19 rfl rfl cl_X11_82 rfl rfl (c_err1 m) ?_
  refine j_iret dX11_change_22 rfl ?_
  exact ⟨rfl, rfl⟩
set_option maxRecDepth 100000 in
theorem f_chgh (m : Mem) (h w v : Int32) (hc : ¬ (0 ≤ h ∧ h ≤ m 69 0 - 1)) : JM l g 3 mX12_change [rf g 68, .int h, .int w, .int v] m (RF (some (.int (-1000000001))) (errM 1 m)) := by
  refine JM_of (ls := [some (rf g 68), some (.int h), some (.int w), some (.int v), none]) pn_X12 rfl rfl ?_
  refine j_aload0 1 dX12_change_0 rfl ?_
  refine j_iload1 2 dX12_change_1 rfl ?_
  refine j_vi1f 5 dX12_change_2 rfl rfl cl_X12_199 rfl rfl (c_misHeir m h) ?_
  refine j_if_eq_bz 54 8 dX12_change_5 rfl rfl (fun h5 => ?_) (fun h5 => absurd h5 hc)
  refine j_aload0 55 dX12_change_54 rfl ?_
  refine j_iconst 56 (v := 1) dX12_change_55 rfl rfl ?_
  refine j_vi1f 59 dX12_change_56 rfl rfl cl_X12_126 rfl rfl (c_finds1 m) ?_
  refine j_iret dX12_change_59 rfl ?_
  exact ⟨rfl, rfl⟩
set_option maxRecDepth 100000 in
theorem e_chgx (m : Mem) (h : Nat) (w v : Int32) (h1 : 0 ≤ nI h ∧ nI h < m 9 9 ∧ nI h < 8) (c : ¬ (0 ≤ w ∧ w ≤ nI 3)) : JM l g 3 mX11_change [rf g 0, .int (nI h), .int w, .int v] m (RF (some (.int (-1000000001))) (errC 1 m)) := by
  refine JM_of (ls := [some (rf g 0), some (.int (nI h)), some (.int w), some (.int v), none]) pn_X11 rfl rfl ?_
  refine j_aload0 1 dX11_change_0 rfl ?_
  refine j_iload1 2 dX11_change_1 rfl ?_
  refine j_vi1f 5 dX11_change_2 rfl rfl cl_X11_124 rfl rfl (c_isHeir m _) ?_
  refine j_if_eq_bz 16 8 dX11_change_5 rfl rfl (fun h5 => absurd h1 h5) (fun h5 => ?_)
  refine j_iload2 9 dX11_change_8 rfl ?_
  refine j_iload3 10 dX11_change_9 rfl ?_
  refine j_st2f 13 dX11_change_10 rfl rfl cl_X11_161 rfl (c_isOHx m w v c) ?_
  refine j_if_ne 23 16 dX11_change_13 rfl rfl (fun h13 => absurd h13 (fun q => q rfl)) (fun h13 => ?_)
  refine j_aload0 17 dX11_change_16 rfl ?_
  refine j_ldc 19 dX11_change_17 rfl kc_X11_81 ?_
  refine j_vi1f 22 dX11_change_19 rfl rfl cl_X11_82 rfl rfl (c_err1 m) ?_
  refine j_iret dX11_change_22 rfl ?_
  exact ⟨rfl, rfl⟩
set_option maxRecDepth 100000 in
theorem f_chgx (m : Mem) (h : Nat) (w v : Int32) (h1 : 0 ≤ nI h ∧ nI h ≤ m 69 0 - 1) (c : ¬ (0 ≤ w ∧ w ≤ nI 3)) : JM l g 3 mX12_change [rf g 68, .int (nI h), .int w, .int v] m (RF (some (.int (-1000000001))) (errM 1 m)) := by
  refine JM_of (ls := [some (rf g 68), some (.int (nI h)), some (.int w), some (.int v), none]) pn_X12 rfl rfl ?_
  refine j_aload0 1 dX12_change_0 rfl ?_
  refine j_iload1 2 dX12_change_1 rfl ?_
  refine j_vi1f 5 dX12_change_2 rfl rfl cl_X12_199 rfl rfl (c_misHeir m _) ?_
  refine j_if_eq_bz 54 8 dX12_change_5 rfl rfl (fun h5 => absurd h1 h5) (fun h5 => ?_)
  refine j_iload2 9 dX12_change_8 rfl ?_
  refine j_i2l 10 dX12_change_9 rfl ?_
  refine j_lconst 11 (v := 0) dX12_change_10 rfl rfl ?_
  refine j_ldc2 14 dX12_change_11 rfl kl_X12_182 ?_
  refine j_st3f 17 dX12_change_14 rfl rfl cl_X12_47 rfl (c_in m w 0 3) ?_
  refine j_if_eq_bz 54 20 dX12_change_17 rfl rfl (fun h17 => ?_) (fun h17 => absurd h17 c)
  refine j_aload0 55 dX12_change_54 rfl ?_
  refine j_iconst 56 (v := 1) dX12_change_55 rfl rfl ?_
  refine j_vi1f 59 dX12_change_56 rfl rfl cl_X12_126 rfl rfl (c_finds1 m) ?_
  refine j_iret dX12_change_59 rfl ?_
  exact ⟨rfl, rfl⟩
set_option maxRecDepth 100000 in
theorem e_chg0 (m : Mem) (h : Nat) (v : Int32) (h1 : 0 ≤ nI h ∧ nI h < m 9 9 ∧ nI h < 8) (c : ¬ (0 ≤ v ∧ v ≤ 15)) : JM l g 3 mX11_change [rf g 0, .int (nI h), .int 0, .int v] m (RF (some (.int (-1000000001))) (errC 1 m)) := by
  refine JM_of (ls := [some (rf g 0), some (.int (nI h)), some (.int 0), some (.int v), none]) pn_X11 rfl rfl ?_
  refine j_aload0 1 dX11_change_0 rfl ?_
  refine j_iload1 2 dX11_change_1 rfl ?_
  refine j_vi1f 5 dX11_change_2 rfl rfl cl_X11_124 rfl rfl (c_isHeir m _) ?_
  refine j_if_eq_bz 16 8 dX11_change_5 rfl rfl (fun h5 => absurd h1 h5) (fun h5 => ?_)
  refine j_iload2 9 dX11_change_8 rfl ?_
  refine j_iload3 10 dX11_change_9 rfl ?_
  refine j_st2f 13 dX11_change_10 rfl rfl cl_X11_161 rfl (c_isOH0 m v) ?_
  refine j_if_ne_bz 23 16 dX11_change_13 rfl rfl (fun h13 => absurd h13 c) (fun h13 => ?_)
  refine j_aload0 17 dX11_change_16 rfl ?_
  refine j_ldc 19 dX11_change_17 rfl kc_X11_81 ?_
  refine j_vi1f 22 dX11_change_19 rfl rfl cl_X11_82 rfl rfl (c_err1 m) ?_
  refine j_iret dX11_change_22 rfl ?_
  exact ⟨rfl, rfl⟩
set_option maxRecDepth 100000 in
theorem f_chg0 (m : Mem) (h : Nat) (v : Int32) (h1 : 0 ≤ nI h ∧ nI h ≤ m 69 0 - 1) (c : ¬ (0 ≤ v ∧ v ≤ 15)) : JM l g 3 mX12_change [rf g 68, .int (nI h), .int 0, .int v] m (RF (some (.int (-1000000001))) (errM 1 m)) := by
  refine JM_of (ls := [some (rf g 68), some (.int (nI h)), some (.int 0), some (.int v), none]) pn_X12 rfl rfl ?_
  refine j_aload0 1 dX12_change_0 rfl ?_
  refine j_iload1 2 dX12_change_1 rfl ?_
  refine j_vi1f 5 dX12_change_2 rfl rfl cl_X12_199 rfl rfl (c_misHeir m _) ?_
  refine j_if_eq_bz 54 8 dX12_change_5 rfl rfl (fun h5 => absurd h1 h5) (fun h5 => ?_)
  refine j_iload2 9 dX12_change_8 rfl ?_
  refine j_i2l 10 dX12_change_9 rfl ?_
  refine j_lconst 11 (v := 0) dX12_change_10 rfl rfl ?_
  refine j_ldc2 14 dX12_change_11 rfl kl_X12_182 ?_
  refine j_st3f 17 dX12_change_14 rfl rfl cl_X12_47 rfl (c_in m _ 0 3) ?_
  refine j_if_eq_bz 54 20 dX12_change_17 rfl rfl (fun h17 => absurd (by decide) h17) (fun h17 => ?_)
  refine j_iload3 21 dX12_change_20 rfl ?_
  refine j_i2l 22 dX12_change_21 rfl ?_
  refine j_lconst 23 (v := 0) dX12_change_22 rfl rfl ?_
  refine j_iload2 24 dX12_change_23 rfl ?_
  refine j_iconst 25 (v := 1) dX12_change_24 rfl rfl ?_
  refine j_cmp_ne 34 28 dX12_change_25 rfl rfl (fun h25 => ?_) (fun h25 => absurd h25 (by decide))
  refine j_iload2 35 dX12_change_34 rfl ?_
  refine j_iconst 36 (v := 3) dX12_change_35 rfl rfl ?_
  refine j_cmp_ne 45 39 dX12_change_36 rfl rfl (fun h36 => ?_) (fun h36 => absurd h36 (by decide))
  refine j_ldc2 48 dX12_change_45 rfl kl_X12_51 ?_
  refine j_st3f 51 dX12_change_48 rfl rfl cl_X12_47 rfl (c_in m v 0 15) ?_
  refine j_if_ne_bz 60 54 dX12_change_51 rfl rfl (fun h51 => absurd h51 c) (fun h51 => ?_)
  refine j_aload0 55 dX12_change_54 rfl ?_
  refine j_iconst 56 (v := 1) dX12_change_55 rfl rfl ?_
  refine j_vi1f 59 dX12_change_56 rfl rfl cl_X12_126 rfl rfl (c_finds1 m) ?_
  refine j_iret dX12_change_59 rfl ?_
  exact ⟨rfl, rfl⟩
set_option maxRecDepth 100000 in
theorem o_chg0 (m : Mem) (h : Nat) (v : Int32) (hh : h < 8) (h1 : 0 ≤ nI h ∧ nI h < m 9 9 ∧ nI h < 8) (c : 0 ≤ v ∧ v ≤ 15) : JM l g 3 mX11_change [rf g 0, .int (nI h), .int 0, .int v] m (RF (some (.int (m 14 h))) (up2 m 14 h v)) := by
  refine JM_of (ls := [some (rf g 0), some (.int (nI h)), some (.int 0), some (.int v), none]) pn_X11 rfl rfl ?_
  refine j_aload0 1 dX11_change_0 rfl ?_
  refine j_iload1 2 dX11_change_1 rfl ?_
  refine j_vi1f 5 dX11_change_2 rfl rfl cl_X11_124 rfl rfl (c_isHeir m _) ?_
  refine j_if_eq_bz 16 8 dX11_change_5 rfl rfl (fun h5 => absurd h1 h5) (fun h5 => ?_)
  refine j_iload2 9 dX11_change_8 rfl ?_
  refine j_iload3 10 dX11_change_9 rfl ?_
  refine j_st2f 13 dX11_change_10 rfl rfl cl_X11_161 rfl (c_isOH0 m v) ?_
  refine j_if_ne_bz 23 16 dX11_change_13 rfl rfl (fun h13 => ?_) (fun h13 => absurd c h13)
  refine j_iload2 24 dX11_change_23 rfl ?_
  refine j_if_ne 51 27 dX11_change_24 rfl rfl (fun h24 => absurd h24 (by decide)) (fun h24 => ?_)
  refine j_aload0 28 dX11_change_27 rfl ?_
  refine j_getR 31 dX11_change_28 rfl fl_X11_35 rfl rfl ?_
  refine j_getR 34 dX11_change_31 rfl fl_X11_133 rfl rfl ?_
  refine j_iload1 35 dX11_change_34 rfl ?_
  refine j_iald 36 _ rfl hh dX11_change_35 rfl rfl ?_
  refine j_istore4 38 dX11_change_36 rfl rfl rfl ?_
  refine j_aload0 39 dX11_change_38 rfl ?_
  refine j_getR 42 dX11_change_39 rfl fl_X11_35 rfl rfl ?_
  refine j_getR 45 dX11_change_42 rfl fl_X11_133 rfl rfl ?_
  refine j_iload1 46 dX11_change_45 rfl ?_
  refine j_iload3 47 dX11_change_46 rfl ?_
  refine j_iast 48 _ rfl hh dX11_change_47 rfl rfl ?_
  refine j_goto 151 dX11_change_48 rfl ?_
  refine j_iload4 153 dX11_change_151 rfl ?_
  refine j_iret dX11_change_153 rfl ?_
  exact ⟨rfl, rfl⟩
set_option maxRecDepth 100000 in
theorem p_chg0 (m : Mem) (h : Nat) (v : Int32) (hh : h < 8) (h1 : 0 ≤ nI h ∧ nI h ≤ m 69 0 - 1) (c : 0 ≤ v ∧ v ≤ 15) : JM l g 3 mX12_change [rf g 68, .int (nI h), .int 0, .int v] m (RF (some (.int (hf (m 69) h 2))) (up2 m 69 (40 + 6 * h + 2) v)) := by
  refine JM_of (ls := [some (rf g 68), some (.int (nI h)), some (.int 0), some (.int v), none]) pn_X12 rfl rfl ?_
  refine j_aload0 1 dX12_change_0 rfl ?_
  refine j_iload1 2 dX12_change_1 rfl ?_
  refine j_vi1f 5 dX12_change_2 rfl rfl cl_X12_199 rfl rfl (c_misHeir m _) ?_
  refine j_if_eq_bz 54 8 dX12_change_5 rfl rfl (fun h5 => absurd h1 h5) (fun h5 => ?_)
  refine j_iload2 9 dX12_change_8 rfl ?_
  refine j_i2l 10 dX12_change_9 rfl ?_
  refine j_lconst 11 (v := 0) dX12_change_10 rfl rfl ?_
  refine j_ldc2 14 dX12_change_11 rfl kl_X12_182 ?_
  refine j_st3f 17 dX12_change_14 rfl rfl cl_X12_47 rfl (c_in m _ 0 3) ?_
  refine j_if_eq_bz 54 20 dX12_change_17 rfl rfl (fun h17 => absurd (by decide) h17) (fun h17 => ?_)
  refine j_iload3 21 dX12_change_20 rfl ?_
  refine j_i2l 22 dX12_change_21 rfl ?_
  refine j_lconst 23 (v := 0) dX12_change_22 rfl rfl ?_
  refine j_iload2 24 dX12_change_23 rfl ?_
  refine j_iconst 25 (v := 1) dX12_change_24 rfl rfl ?_
  refine j_cmp_ne 34 28 dX12_change_25 rfl rfl (fun h25 => ?_) (fun h25 => absurd h25 (by decide))
  refine j_iload2 35 dX12_change_34 rfl ?_
  refine j_iconst 36 (v := 3) dX12_change_35 rfl rfl ?_
  refine j_cmp_ne 45 39 dX12_change_36 rfl rfl (fun h36 => ?_) (fun h36 => absurd h36 (by decide))
  refine j_ldc2 48 dX12_change_45 rfl kl_X12_51 ?_
  refine j_st3f 51 dX12_change_48 rfl rfl cl_X12_47 rfl (c_in m v 0 15) ?_
  refine j_if_ne_bz 60 54 dX12_change_51 rfl rfl (fun h51 => ?_) (fun h51 => absurd c h51)
  refine j_iload2 61 dX12_change_60 rfl ?_
  refine j_iconst 62 (v := 2) dX12_change_61 rfl rfl ?_
  refine j_cmp_ne 79 65 dX12_change_62 rfl rfl (fun h62 => ?_) (fun h62 => absurd h62 (by decide))
  refine j_aload0 80 dX12_change_79 rfl ?_
  refine j_iload1 81 dX12_change_80 rfl ?_
  refine j_iconst 82 (v := 2) dX12_change_81 rfl rfl ?_
  refine j_iload2 83 dX12_change_82 rfl ?_
  refine j_iadd 84 dX12_change_83 rfl ?_
  refine j_top (z := nI 2) (by decide) ?_
  refine j_vi2f 87 dX12_change_84 rfl rfl cl_X12_146 rfl rfl (c_of m h 2 hh (by decide)) ?_
  refine j_istore4 89 dX12_change_87 rfl rfl rfl ?_
  refine j_iload2 90 dX12_change_89 rfl ?_
  refine j_iconst 91 (v := 1) dX12_change_90 rfl rfl ?_
  refine j_cmp_ne 103 94 dX12_change_91 rfl rfl (fun h91 => ?_) (fun h91 => absurd h91 (by decide))
  refine j_aload0 104 dX12_change_103 rfl ?_
  refine j_iload1 105 dX12_change_104 rfl ?_
  refine j_iconst 106 (v := 2) dX12_change_105 rfl rfl ?_
  refine j_iload2 107 dX12_change_106 rfl ?_
  refine j_iadd 108 dX12_change_107 rfl ?_
  refine j_top (z := nI 2) (by decide) ?_
  refine j_iload3 109 dX12_change_108 rfl ?_
  refine j_vi3v 112 dX12_change_109 rfl rfl cl_X12_164 rfl rfl (c_sets m h 2 v hh (by decide)) ?_
  refine j_iload4 114 dX12_change_112 rfl ?_
  refine j_iret dX12_change_114 rfl ?_
  exact ⟨rfl, rfl⟩
set_option maxRecDepth 100000 in
theorem e_chg1 (m : Mem) (h : Nat) (v : Int32) (h1 : 0 ≤ nI h ∧ nI h < m 9 9 ∧ nI h < 8) (c : ¬ (0 ≤ v ∧ v ≤ 99)) : JM l g 3 mX11_change [rf g 0, .int (nI h), .int 1, .int v] m (RF (some (.int (-1000000001))) (errC 1 m)) := by
  refine JM_of (ls := [some (rf g 0), some (.int (nI h)), some (.int 1), some (.int v), none]) pn_X11 rfl rfl ?_
  refine j_aload0 1 dX11_change_0 rfl ?_
  refine j_iload1 2 dX11_change_1 rfl ?_
  refine j_vi1f 5 dX11_change_2 rfl rfl cl_X11_124 rfl rfl (c_isHeir m _) ?_
  refine j_if_eq_bz 16 8 dX11_change_5 rfl rfl (fun h5 => absurd h1 h5) (fun h5 => ?_)
  refine j_iload2 9 dX11_change_8 rfl ?_
  refine j_iload3 10 dX11_change_9 rfl ?_
  refine j_st2f 13 dX11_change_10 rfl rfl cl_X11_161 rfl (c_isOH1 m v) ?_
  refine j_if_ne_bz 23 16 dX11_change_13 rfl rfl (fun h13 => absurd h13 c) (fun h13 => ?_)
  refine j_aload0 17 dX11_change_16 rfl ?_
  refine j_ldc 19 dX11_change_17 rfl kc_X11_81 ?_
  refine j_vi1f 22 dX11_change_19 rfl rfl cl_X11_82 rfl rfl (c_err1 m) ?_
  refine j_iret dX11_change_22 rfl ?_
  exact ⟨rfl, rfl⟩
set_option maxRecDepth 100000 in
theorem f_chg1 (m : Mem) (h : Nat) (v : Int32) (h1 : 0 ≤ nI h ∧ nI h ≤ m 69 0 - 1) (c : ¬ (0 ≤ v ∧ v ≤ 99)) : JM l g 3 mX12_change [rf g 68, .int (nI h), .int 1, .int v] m (RF (some (.int (-1000000001))) (errM 1 m)) := by
  refine JM_of (ls := [some (rf g 68), some (.int (nI h)), some (.int 1), some (.int v), none]) pn_X12 rfl rfl ?_
  refine j_aload0 1 dX12_change_0 rfl ?_
  refine j_iload1 2 dX12_change_1 rfl ?_
  refine j_vi1f 5 dX12_change_2 rfl rfl cl_X12_199 rfl rfl (c_misHeir m _) ?_
  refine j_if_eq_bz 54 8 dX12_change_5 rfl rfl (fun h5 => absurd h1 h5) (fun h5 => ?_)
  refine j_iload2 9 dX12_change_8 rfl ?_
  refine j_i2l 10 dX12_change_9 rfl ?_
  refine j_lconst 11 (v := 0) dX12_change_10 rfl rfl ?_
  refine j_ldc2 14 dX12_change_11 rfl kl_X12_182 ?_
  refine j_st3f 17 dX12_change_14 rfl rfl cl_X12_47 rfl (c_in m _ 0 3) ?_
  refine j_if_eq_bz 54 20 dX12_change_17 rfl rfl (fun h17 => absurd (by decide) h17) (fun h17 => ?_)
  refine j_iload3 21 dX12_change_20 rfl ?_
  refine j_i2l 22 dX12_change_21 rfl ?_
  refine j_lconst 23 (v := 0) dX12_change_22 rfl rfl ?_
  refine j_iload2 24 dX12_change_23 rfl ?_
  refine j_iconst 25 (v := 1) dX12_change_24 rfl rfl ?_
  refine j_cmp_ne 34 28 dX12_change_25 rfl rfl (fun h25 => absurd h25 (by decide)) (fun h25 => ?_)
  refine j_ldc2 31 dX12_change_28 rfl kl_X12_193 ?_
  refine j_goto 48 dX12_change_31 rfl ?_
  refine j_st3f 51 dX12_change_48 rfl rfl cl_X12_47 rfl (c_in m v 0 99) ?_
  refine j_if_ne_bz 60 54 dX12_change_51 rfl rfl (fun h51 => absurd h51 c) (fun h51 => ?_)
  refine j_aload0 55 dX12_change_54 rfl ?_
  refine j_iconst 56 (v := 1) dX12_change_55 rfl rfl ?_
  refine j_vi1f 59 dX12_change_56 rfl rfl cl_X12_126 rfl rfl (c_finds1 m) ?_
  refine j_iret dX12_change_59 rfl ?_
  exact ⟨rfl, rfl⟩
set_option maxRecDepth 100000 in
theorem o_chg1 (m : Mem) (h : Nat) (v : Int32) (hh : h < 8) (h1 : 0 ≤ nI h ∧ nI h < m 9 9 ∧ nI h < 8) (c : 0 ≤ v ∧ v ≤ 99) : JM l g 3 mX11_change [rf g 0, .int (nI h), .int 1, .int v] m (RF (some (.int (m 15 h))) (up2 (up2 m 15 h v) 16 h (if v = 0 then m 14 h else -1))) := by
  refine JM_of (ls := [some (rf g 0), some (.int (nI h)), some (.int 1), some (.int v), none]) pn_X11 rfl rfl ?_
  refine j_aload0 1 dX11_change_0 rfl ?_
  refine j_iload1 2 dX11_change_1 rfl ?_
  refine j_vi1f 5 dX11_change_2 rfl rfl cl_X11_124 rfl rfl (c_isHeir m _) ?_
  refine j_if_eq_bz 16 8 dX11_change_5 rfl rfl (fun h5 => absurd h1 h5) (fun h5 => ?_)
  refine j_iload2 9 dX11_change_8 rfl ?_
  refine j_iload3 10 dX11_change_9 rfl ?_
  refine j_st2f 13 dX11_change_10 rfl rfl cl_X11_161 rfl (c_isOH1 m v) ?_
  refine j_if_ne_bz 23 16 dX11_change_13 rfl rfl (fun h13 => ?_) (fun h13 => absurd c h13)
  refine j_iload2 24 dX11_change_23 rfl ?_
  refine j_if_ne 51 27 dX11_change_24 rfl rfl (fun h24 => ?_) (fun h24 => absurd h24 (by decide))
  refine j_iload2 52 dX11_change_51 rfl ?_
  refine j_iconst 53 (v := 1) dX11_change_52 rfl rfl ?_
  refine j_cmp_ne 79 56 dX11_change_53 rfl rfl (fun h53 => absurd h53 (by decide)) (fun h53 => ?_)
  refine j_aload0 57 dX11_change_56 rfl ?_
  refine j_getR 60 dX11_change_57 rfl fl_X11_35 rfl rfl ?_
  refine j_getR 63 dX11_change_60 rfl fl_X11_136 rfl rfl ?_
  refine j_iload1 64 dX11_change_63 rfl ?_
  refine j_iald 65 _ rfl hh dX11_change_64 rfl rfl ?_
  refine j_istore4 67 dX11_change_65 rfl rfl rfl ?_
  refine j_aload0 68 dX11_change_67 rfl ?_
  refine j_getR 71 dX11_change_68 rfl fl_X11_35 rfl rfl ?_
  refine j_iload1 72 dX11_change_71 rfl ?_
  refine j_iload3 73 dX11_change_72 rfl ?_
  refine j_vi2v 76 dX11_change_73 rfl rfl cl_X11_165 rfl rfl (c_setLeft_9 m h v hh) ?_
  refine j_goto 151 dX11_change_76 rfl ?_
  refine j_iload4 153 dX11_change_151 rfl ?_
  refine j_iret dX11_change_153 rfl ?_
  exact ⟨rfl, rfl⟩
set_option maxRecDepth 100000 in
theorem p_chg1 (m : Mem) (h : Nat) (v : Int32) (hh : h < 8) (h1 : 0 ≤ nI h ∧ nI h ≤ m 69 0 - 1) (c : 0 ≤ v ∧ v ≤ 99) : JM l g 3 mX12_change [rf g 68, .int (nI h), .int 1, .int v] m (RF (some (.int (hf (m 69) h 3))) (up2 (up2 m 69 (40 + 6 * h + 3) v) 69 (40 + 6 * h + 4) (if v = 0 then hf (m 69) h 2 else -1))) := by
  refine JM_of (ls := [some (rf g 68), some (.int (nI h)), some (.int 1), some (.int v), none]) pn_X12 rfl rfl ?_
  refine j_aload0 1 dX12_change_0 rfl ?_
  refine j_iload1 2 dX12_change_1 rfl ?_
  refine j_vi1f 5 dX12_change_2 rfl rfl cl_X12_199 rfl rfl (c_misHeir m _) ?_
  refine j_if_eq_bz 54 8 dX12_change_5 rfl rfl (fun h5 => absurd h1 h5) (fun h5 => ?_)
  refine j_iload2 9 dX12_change_8 rfl ?_
  refine j_i2l 10 dX12_change_9 rfl ?_
  refine j_lconst 11 (v := 0) dX12_change_10 rfl rfl ?_
  refine j_ldc2 14 dX12_change_11 rfl kl_X12_182 ?_
  refine j_st3f 17 dX12_change_14 rfl rfl cl_X12_47 rfl (c_in m _ 0 3) ?_
  refine j_if_eq_bz 54 20 dX12_change_17 rfl rfl (fun h17 => absurd (by decide) h17) (fun h17 => ?_)
  refine j_iload3 21 dX12_change_20 rfl ?_
  refine j_i2l 22 dX12_change_21 rfl ?_
  refine j_lconst 23 (v := 0) dX12_change_22 rfl rfl ?_
  refine j_iload2 24 dX12_change_23 rfl ?_
  refine j_iconst 25 (v := 1) dX12_change_24 rfl rfl ?_
  refine j_cmp_ne 34 28 dX12_change_25 rfl rfl (fun h25 => absurd h25 (by decide)) (fun h25 => ?_)
  refine j_ldc2 31 dX12_change_28 rfl kl_X12_193 ?_
  refine j_goto 48 dX12_change_31 rfl ?_
  refine j_st3f 51 dX12_change_48 rfl rfl cl_X12_47 rfl (c_in m v 0 99) ?_
  refine j_if_ne_bz 60 54 dX12_change_51 rfl rfl (fun h51 => ?_) (fun h51 => absurd c h51)
  refine j_iload2 61 dX12_change_60 rfl ?_
  refine j_iconst 62 (v := 2) dX12_change_61 rfl rfl ?_
  refine j_cmp_ne 79 65 dX12_change_62 rfl rfl (fun h62 => ?_) (fun h62 => absurd h62 (by decide))
  refine j_aload0 80 dX12_change_79 rfl ?_
  refine j_iload1 81 dX12_change_80 rfl ?_
  refine j_iconst 82 (v := 2) dX12_change_81 rfl rfl ?_
  refine j_iload2 83 dX12_change_82 rfl ?_
  refine j_iadd 84 dX12_change_83 rfl ?_
  refine j_top (z := nI 3) (by decide) ?_
  refine j_vi2f 87 dX12_change_84 rfl rfl cl_X12_146 rfl rfl (c_of m h 3 hh (by decide)) ?_
  refine j_istore4 89 dX12_change_87 rfl rfl rfl ?_
  refine j_iload2 90 dX12_change_89 rfl ?_
  refine j_iconst 91 (v := 1) dX12_change_90 rfl rfl ?_
  refine j_cmp_ne 103 94 dX12_change_91 rfl rfl (fun h91 => absurd h91 (by decide)) (fun h91 => ?_)
  refine j_aload0 95 dX12_change_94 rfl ?_
  refine j_iload1 96 dX12_change_95 rfl ?_
  refine j_iload3 97 dX12_change_96 rfl ?_
  refine j_vi2v 100 dX12_change_97 rfl rfl cl_X12_195 rfl rfl (c_leaves m h v hh) ?_
  refine j_goto 112 dX12_change_100 rfl ?_
  refine j_iload4 114 dX12_change_112 rfl ?_
  refine j_iret dX12_change_114 rfl ?_
  exact ⟨rfl, rfl⟩
set_option maxRecDepth 100000 in
theorem e_chg2 (m : Mem) (h : Nat) (v : Int32) (h1 : 0 ≤ nI h ∧ nI h < m 9 9 ∧ nI h < 8) (c : ¬ (0 ≤ v ∧ v ≤ 15)) : JM l g 3 mX11_change [rf g 0, .int (nI h), .int 2, .int v] m (RF (some (.int (-1000000001))) (errC 1 m)) := by
  refine JM_of (ls := [some (rf g 0), some (.int (nI h)), some (.int 2), some (.int v), none]) pn_X11 rfl rfl ?_
  refine j_aload0 1 dX11_change_0 rfl ?_
  refine j_iload1 2 dX11_change_1 rfl ?_
  refine j_vi1f 5 dX11_change_2 rfl rfl cl_X11_124 rfl rfl (c_isHeir m _) ?_
  refine j_if_eq_bz 16 8 dX11_change_5 rfl rfl (fun h5 => absurd h1 h5) (fun h5 => ?_)
  refine j_iload2 9 dX11_change_8 rfl ?_
  refine j_iload3 10 dX11_change_9 rfl ?_
  refine j_st2f 13 dX11_change_10 rfl rfl cl_X11_161 rfl (c_isOH2 m v) ?_
  refine j_if_ne_bz 23 16 dX11_change_13 rfl rfl (fun h13 => absurd h13 c) (fun h13 => ?_)
  refine j_aload0 17 dX11_change_16 rfl ?_
  refine j_ldc 19 dX11_change_17 rfl kc_X11_81 ?_
  refine j_vi1f 22 dX11_change_19 rfl rfl cl_X11_82 rfl rfl (c_err1 m) ?_
  refine j_iret dX11_change_22 rfl ?_
  exact ⟨rfl, rfl⟩
set_option maxRecDepth 100000 in
theorem f_chg2 (m : Mem) (h : Nat) (v : Int32) (h1 : 0 ≤ nI h ∧ nI h ≤ m 69 0 - 1) (c : ¬ (0 ≤ v ∧ v ≤ 15)) : JM l g 3 mX12_change [rf g 68, .int (nI h), .int 2, .int v] m (RF (some (.int (-1000000001))) (errM 1 m)) := by
  refine JM_of (ls := [some (rf g 68), some (.int (nI h)), some (.int 2), some (.int v), none]) pn_X12 rfl rfl ?_
  refine j_aload0 1 dX12_change_0 rfl ?_
  refine j_iload1 2 dX12_change_1 rfl ?_
  refine j_vi1f 5 dX12_change_2 rfl rfl cl_X12_199 rfl rfl (c_misHeir m _) ?_
  refine j_if_eq_bz 54 8 dX12_change_5 rfl rfl (fun h5 => absurd h1 h5) (fun h5 => ?_)
  refine j_iload2 9 dX12_change_8 rfl ?_
  refine j_i2l 10 dX12_change_9 rfl ?_
  refine j_lconst 11 (v := 0) dX12_change_10 rfl rfl ?_
  refine j_ldc2 14 dX12_change_11 rfl kl_X12_182 ?_
  refine j_st3f 17 dX12_change_14 rfl rfl cl_X12_47 rfl (c_in m _ 0 3) ?_
  refine j_if_eq_bz 54 20 dX12_change_17 rfl rfl (fun h17 => absurd (by decide) h17) (fun h17 => ?_)
  refine j_iload3 21 dX12_change_20 rfl ?_
  refine j_i2l 22 dX12_change_21 rfl ?_
  refine j_lconst 23 (v := 0) dX12_change_22 rfl rfl ?_
  refine j_iload2 24 dX12_change_23 rfl ?_
  refine j_iconst 25 (v := 1) dX12_change_24 rfl rfl ?_
  refine j_cmp_ne 34 28 dX12_change_25 rfl rfl (fun h25 => ?_) (fun h25 => absurd h25 (by decide))
  refine j_iload2 35 dX12_change_34 rfl ?_
  refine j_iconst 36 (v := 3) dX12_change_35 rfl rfl ?_
  refine j_cmp_ne 45 39 dX12_change_36 rfl rfl (fun h36 => ?_) (fun h36 => absurd h36 (by decide))
  refine j_ldc2 48 dX12_change_45 rfl kl_X12_51 ?_
  refine j_st3f 51 dX12_change_48 rfl rfl cl_X12_47 rfl (c_in m v 0 15) ?_
  refine j_if_ne_bz 60 54 dX12_change_51 rfl rfl (fun h51 => absurd h51 c) (fun h51 => ?_)
  refine j_aload0 55 dX12_change_54 rfl ?_
  refine j_iconst 56 (v := 1) dX12_change_55 rfl rfl ?_
  refine j_vi1f 59 dX12_change_56 rfl rfl cl_X12_126 rfl rfl (c_finds1 m) ?_
  refine j_iret dX12_change_59 rfl ?_
  exact ⟨rfl, rfl⟩
set_option maxRecDepth 100000 in
theorem o_chg2 (m : Mem) (h : Nat) (v : Int32) (hh : h < 8) (h1 : 0 ≤ nI h ∧ nI h < m 9 9 ∧ nI h < 8) (c : 0 ≤ v ∧ v ≤ 15) (hd : m 15 h = 0) : JM l g 3 mX11_change [rf g 0, .int (nI h), .int 2, .int v] m (RF (some (.int (m 16 h))) (up2 m 16 h v)) := by
  refine JM_of (ls := [some (rf g 0), some (.int (nI h)), some (.int 2), some (.int v), none]) pn_X11 rfl rfl ?_
  refine j_aload0 1 dX11_change_0 rfl ?_
  refine j_iload1 2 dX11_change_1 rfl ?_
  refine j_vi1f 5 dX11_change_2 rfl rfl cl_X11_124 rfl rfl (c_isHeir m _) ?_
  refine j_if_eq_bz 16 8 dX11_change_5 rfl rfl (fun h5 => absurd h1 h5) (fun h5 => ?_)
  refine j_iload2 9 dX11_change_8 rfl ?_
  refine j_iload3 10 dX11_change_9 rfl ?_
  refine j_st2f 13 dX11_change_10 rfl rfl cl_X11_161 rfl (c_isOH2 m v) ?_
  refine j_if_ne_bz 23 16 dX11_change_13 rfl rfl (fun h13 => ?_) (fun h13 => absurd c h13)
  refine j_iload2 24 dX11_change_23 rfl ?_
  refine j_if_ne 51 27 dX11_change_24 rfl rfl (fun h24 => ?_) (fun h24 => absurd h24 (by decide))
  refine j_iload2 52 dX11_change_51 rfl ?_
  refine j_iconst 53 (v := 1) dX11_change_52 rfl rfl ?_
  refine j_cmp_ne 79 56 dX11_change_53 rfl rfl (fun h53 => ?_) (fun h53 => absurd h53 (by decide))
  refine j_iload2 80 dX11_change_79 rfl ?_
  refine j_iconst 81 (v := 3) dX11_change_80 rfl rfl ?_
  refine j_cmp_ne 108 84 dX11_change_81 rfl rfl (fun h81 => ?_) (fun h81 => absurd h81 (by decide))
  refine j_aload0 109 dX11_change_108 rfl ?_
  refine j_getR 112 dX11_change_109 rfl fl_X11_35 rfl rfl ?_
  refine j_iload1 113 dX11_change_112 rfl ?_
  refine j_vi1f 116 dX11_change_113 rfl rfl cl_X11_149 rfl rfl (c_isDust_9 m h hh) ?_
  refine j_if_eq_bz 143 119 dX11_change_116 rfl rfl (fun h116 => absurd hd h116) (fun h116 => ?_)
  refine j_aload0 120 dX11_change_119 rfl ?_
  refine j_getR 123 dX11_change_120 rfl fl_X11_35 rfl rfl ?_
  refine j_getR 126 dX11_change_123 rfl fl_X11_139 rfl rfl ?_
  refine j_iload1 127 dX11_change_126 rfl ?_
  refine j_iald 128 _ rfl hh dX11_change_127 rfl rfl ?_
  refine j_istore4 130 dX11_change_128 rfl rfl rfl ?_
  refine j_aload0 131 dX11_change_130 rfl ?_
  refine j_getR 134 dX11_change_131 rfl fl_X11_35 rfl rfl ?_
  refine j_getR 137 dX11_change_134 rfl fl_X11_139 rfl rfl ?_
  refine j_iload1 138 dX11_change_137 rfl ?_
  refine j_iload3 139 dX11_change_138 rfl ?_
  refine j_iast 140 _ rfl hh dX11_change_139 rfl rfl ?_
  refine j_goto 151 dX11_change_140 rfl ?_
  refine j_iload4 153 dX11_change_151 rfl ?_
  refine j_iret dX11_change_153 rfl ?_
  exact ⟨rfl, rfl⟩
set_option maxRecDepth 100000 in
theorem p_chg2 (m : Mem) (h : Nat) (v : Int32) (hh : h < 8) (h1 : 0 ≤ nI h ∧ nI h ≤ m 69 0 - 1) (c : 0 ≤ v ∧ v ≤ 15) (hd : hf (m 69) h 3 = 0) : JM l g 3 mX12_change [rf g 68, .int (nI h), .int 2, .int v] m (RF (some (.int (hf (m 69) h 4))) (up2 m 69 (40 + 6 * h + 4) v)) := by
  refine JM_of (ls := [some (rf g 68), some (.int (nI h)), some (.int 2), some (.int v), none]) pn_X12 rfl rfl ?_
  refine j_aload0 1 dX12_change_0 rfl ?_
  refine j_iload1 2 dX12_change_1 rfl ?_
  refine j_vi1f 5 dX12_change_2 rfl rfl cl_X12_199 rfl rfl (c_misHeir m _) ?_
  refine j_if_eq_bz 54 8 dX12_change_5 rfl rfl (fun h5 => absurd h1 h5) (fun h5 => ?_)
  refine j_iload2 9 dX12_change_8 rfl ?_
  refine j_i2l 10 dX12_change_9 rfl ?_
  refine j_lconst 11 (v := 0) dX12_change_10 rfl rfl ?_
  refine j_ldc2 14 dX12_change_11 rfl kl_X12_182 ?_
  refine j_st3f 17 dX12_change_14 rfl rfl cl_X12_47 rfl (c_in m _ 0 3) ?_
  refine j_if_eq_bz 54 20 dX12_change_17 rfl rfl (fun h17 => absurd (by decide) h17) (fun h17 => ?_)
  refine j_iload3 21 dX12_change_20 rfl ?_
  refine j_i2l 22 dX12_change_21 rfl ?_
  refine j_lconst 23 (v := 0) dX12_change_22 rfl rfl ?_
  refine j_iload2 24 dX12_change_23 rfl ?_
  refine j_iconst 25 (v := 1) dX12_change_24 rfl rfl ?_
  refine j_cmp_ne 34 28 dX12_change_25 rfl rfl (fun h25 => ?_) (fun h25 => absurd h25 (by decide))
  refine j_iload2 35 dX12_change_34 rfl ?_
  refine j_iconst 36 (v := 3) dX12_change_35 rfl rfl ?_
  refine j_cmp_ne 45 39 dX12_change_36 rfl rfl (fun h36 => ?_) (fun h36 => absurd h36 (by decide))
  refine j_ldc2 48 dX12_change_45 rfl kl_X12_51 ?_
  refine j_st3f 51 dX12_change_48 rfl rfl cl_X12_47 rfl (c_in m v 0 15) ?_
  refine j_if_ne_bz 60 54 dX12_change_51 rfl rfl (fun h51 => ?_) (fun h51 => absurd c h51)
  refine j_iload2 61 dX12_change_60 rfl ?_
  refine j_iconst 62 (v := 2) dX12_change_61 rfl rfl ?_
  refine j_cmp_ne 79 65 dX12_change_62 rfl rfl (fun h62 => absurd h62 (by decide)) (fun h62 => ?_)
  refine j_aload0 66 dX12_change_65 rfl ?_
  refine j_iload1 67 dX12_change_66 rfl ?_
  refine j_vi1f 70 dX12_change_67 rfl rfl cl_X12_149 rfl rfl (c_misDust m h hh) ?_
  refine j_if_ne_bz 79 73 dX12_change_70 rfl rfl (fun h70 => ?_) (fun h70 => absurd hd h70)
  refine j_aload0 80 dX12_change_79 rfl ?_
  refine j_iload1 81 dX12_change_80 rfl ?_
  refine j_iconst 82 (v := 2) dX12_change_81 rfl rfl ?_
  refine j_iload2 83 dX12_change_82 rfl ?_
  refine j_iadd 84 dX12_change_83 rfl ?_
  refine j_top (z := nI 4) (by decide) ?_
  refine j_vi2f 87 dX12_change_84 rfl rfl cl_X12_146 rfl rfl (c_of m h 4 hh (by decide)) ?_
  refine j_istore4 89 dX12_change_87 rfl rfl rfl ?_
  refine j_iload2 90 dX12_change_89 rfl ?_
  refine j_iconst 91 (v := 1) dX12_change_90 rfl rfl ?_
  refine j_cmp_ne 103 94 dX12_change_91 rfl rfl (fun h91 => ?_) (fun h91 => absurd h91 (by decide))
  refine j_aload0 104 dX12_change_103 rfl ?_
  refine j_iload1 105 dX12_change_104 rfl ?_
  refine j_iconst 106 (v := 2) dX12_change_105 rfl rfl ?_
  refine j_iload2 107 dX12_change_106 rfl ?_
  refine j_iadd 108 dX12_change_107 rfl ?_
  refine j_top (z := nI 4) (by decide) ?_
  refine j_iload3 109 dX12_change_108 rfl ?_
  refine j_vi3v 112 dX12_change_109 rfl rfl cl_X12_164 rfl rfl (c_sets m h 4 v hh (by decide)) ?_
  refine j_iload4 114 dX12_change_112 rfl ?_
  refine j_iret dX12_change_114 rfl ?_
  exact ⟨rfl, rfl⟩
set_option maxRecDepth 100000 in
theorem e_chg3 (m : Mem) (h : Nat) (v : Int32) (h1 : 0 ≤ nI h ∧ nI h < m 9 9 ∧ nI h < 8) (c : ¬ (0 ≤ v ∧ v ≤ 9999)) : JM l g 3 mX11_change [rf g 0, .int (nI h), .int 3, .int v] m (RF (some (.int (-1000000001))) (errC 1 m)) := by
  refine JM_of (ls := [some (rf g 0), some (.int (nI h)), some (.int 3), some (.int v), none]) pn_X11 rfl rfl ?_
  refine j_aload0 1 dX11_change_0 rfl ?_
  refine j_iload1 2 dX11_change_1 rfl ?_
  refine j_vi1f 5 dX11_change_2 rfl rfl cl_X11_124 rfl rfl (c_isHeir m _) ?_
  refine j_if_eq_bz 16 8 dX11_change_5 rfl rfl (fun h5 => absurd h1 h5) (fun h5 => ?_)
  refine j_iload2 9 dX11_change_8 rfl ?_
  refine j_iload3 10 dX11_change_9 rfl ?_
  refine j_st2f 13 dX11_change_10 rfl rfl cl_X11_161 rfl (c_isOH3 m v) ?_
  refine j_if_ne_bz 23 16 dX11_change_13 rfl rfl (fun h13 => absurd h13 c) (fun h13 => ?_)
  refine j_aload0 17 dX11_change_16 rfl ?_
  refine j_ldc 19 dX11_change_17 rfl kc_X11_81 ?_
  refine j_vi1f 22 dX11_change_19 rfl rfl cl_X11_82 rfl rfl (c_err1 m) ?_
  refine j_iret dX11_change_22 rfl ?_
  exact ⟨rfl, rfl⟩
set_option maxRecDepth 100000 in
theorem f_chg3 (m : Mem) (h : Nat) (v : Int32) (h1 : 0 ≤ nI h ∧ nI h ≤ m 69 0 - 1) (c : ¬ (0 ≤ v ∧ v ≤ 9999)) : JM l g 3 mX12_change [rf g 68, .int (nI h), .int 3, .int v] m (RF (some (.int (-1000000001))) (errM 1 m)) := by
  refine JM_of (ls := [some (rf g 68), some (.int (nI h)), some (.int 3), some (.int v), none]) pn_X12 rfl rfl ?_
  refine j_aload0 1 dX12_change_0 rfl ?_
  refine j_iload1 2 dX12_change_1 rfl ?_
  refine j_vi1f 5 dX12_change_2 rfl rfl cl_X12_199 rfl rfl (c_misHeir m _) ?_
  refine j_if_eq_bz 54 8 dX12_change_5 rfl rfl (fun h5 => absurd h1 h5) (fun h5 => ?_)
  refine j_iload2 9 dX12_change_8 rfl ?_
  refine j_i2l 10 dX12_change_9 rfl ?_
  refine j_lconst 11 (v := 0) dX12_change_10 rfl rfl ?_
  refine j_ldc2 14 dX12_change_11 rfl kl_X12_182 ?_
  refine j_st3f 17 dX12_change_14 rfl rfl cl_X12_47 rfl (c_in m _ 0 3) ?_
  refine j_if_eq_bz 54 20 dX12_change_17 rfl rfl (fun h17 => absurd (by decide) h17) (fun h17 => ?_)
  refine j_iload3 21 dX12_change_20 rfl ?_
  refine j_i2l 22 dX12_change_21 rfl ?_
  refine j_lconst 23 (v := 0) dX12_change_22 rfl rfl ?_
  refine j_iload2 24 dX12_change_23 rfl ?_
  refine j_iconst 25 (v := 1) dX12_change_24 rfl rfl ?_
  refine j_cmp_ne 34 28 dX12_change_25 rfl rfl (fun h25 => ?_) (fun h25 => absurd h25 (by decide))
  refine j_iload2 35 dX12_change_34 rfl ?_
  refine j_iconst 36 (v := 3) dX12_change_35 rfl rfl ?_
  refine j_cmp_ne 45 39 dX12_change_36 rfl rfl (fun h36 => absurd h36 (by decide)) (fun h36 => ?_)
  refine j_ldc2 42 dX12_change_39 rfl kl_X12_205 ?_
  refine j_goto 48 dX12_change_42 rfl ?_
  refine j_st3f 51 dX12_change_48 rfl rfl cl_X12_47 rfl (c_in m v 0 9999) ?_
  refine j_if_ne_bz 60 54 dX12_change_51 rfl rfl (fun h51 => absurd h51 c) (fun h51 => ?_)
  refine j_aload0 55 dX12_change_54 rfl ?_
  refine j_iconst 56 (v := 1) dX12_change_55 rfl rfl ?_
  refine j_vi1f 59 dX12_change_56 rfl rfl cl_X12_126 rfl rfl (c_finds1 m) ?_
  refine j_iret dX12_change_59 rfl ?_
  exact ⟨rfl, rfl⟩
set_option maxRecDepth 100000 in
theorem o_chg3 (m : Mem) (h : Nat) (v : Int32) (hh : h < 8) (h1 : 0 ≤ nI h ∧ nI h < m 9 9 ∧ nI h < 8) (c : 0 ≤ v ∧ v ≤ 9999) : JM l g 3 mX11_change [rf g 0, .int (nI h), .int 3, .int v] m (RF (some (.int (m 17 h))) (up2 m 17 h v)) := by
  refine JM_of (ls := [some (rf g 0), some (.int (nI h)), some (.int 3), some (.int v), none]) pn_X11 rfl rfl ?_
  refine j_aload0 1 dX11_change_0 rfl ?_
  refine j_iload1 2 dX11_change_1 rfl ?_
  refine j_vi1f 5 dX11_change_2 rfl rfl cl_X11_124 rfl rfl (c_isHeir m _) ?_
  refine j_if_eq_bz 16 8 dX11_change_5 rfl rfl (fun h5 => absurd h1 h5) (fun h5 => ?_)
  refine j_iload2 9 dX11_change_8 rfl ?_
  refine j_iload3 10 dX11_change_9 rfl ?_
  refine j_st2f 13 dX11_change_10 rfl rfl cl_X11_161 rfl (c_isOH3 m v) ?_
  refine j_if_ne_bz 23 16 dX11_change_13 rfl rfl (fun h13 => ?_) (fun h13 => absurd c h13)
  refine j_iload2 24 dX11_change_23 rfl ?_
  refine j_if_ne 51 27 dX11_change_24 rfl rfl (fun h24 => ?_) (fun h24 => absurd h24 (by decide))
  refine j_iload2 52 dX11_change_51 rfl ?_
  refine j_iconst 53 (v := 1) dX11_change_52 rfl rfl ?_
  refine j_cmp_ne 79 56 dX11_change_53 rfl rfl (fun h53 => ?_) (fun h53 => absurd h53 (by decide))
  refine j_iload2 80 dX11_change_79 rfl ?_
  refine j_iconst 81 (v := 3) dX11_change_80 rfl rfl ?_
  refine j_cmp_ne 108 84 dX11_change_81 rfl rfl (fun h81 => absurd h81 (by decide)) (fun h81 => ?_)
  refine j_aload0 85 dX11_change_84 rfl ?_
  refine j_getR 88 dX11_change_85 rfl fl_X11_35 rfl rfl ?_
  refine j_getR 91 dX11_change_88 rfl fl_X11_142 rfl rfl ?_
  refine j_iload1 92 dX11_change_91 rfl ?_
  refine j_iald 93 _ rfl hh dX11_change_92 rfl rfl ?_
  refine j_istore4 95 dX11_change_93 rfl rfl rfl ?_
  refine j_aload0 96 dX11_change_95 rfl ?_
  refine j_getR 99 dX11_change_96 rfl fl_X11_35 rfl rfl ?_
  refine j_getR 102 dX11_change_99 rfl fl_X11_142 rfl rfl ?_
  refine j_iload1 103 dX11_change_102 rfl ?_
  refine j_iload3 104 dX11_change_103 rfl ?_
  refine j_iast 105 _ rfl hh dX11_change_104 rfl rfl ?_
  refine j_goto 151 dX11_change_105 rfl ?_
  refine j_iload4 153 dX11_change_151 rfl ?_
  refine j_iret dX11_change_153 rfl ?_
  exact ⟨rfl, rfl⟩
set_option maxRecDepth 100000 in
theorem p_chg3 (m : Mem) (h : Nat) (v : Int32) (hh : h < 8) (h1 : 0 ≤ nI h ∧ nI h ≤ m 69 0 - 1) (c : 0 ≤ v ∧ v ≤ 9999) : JM l g 3 mX12_change [rf g 68, .int (nI h), .int 3, .int v] m (RF (some (.int (hf (m 69) h 5))) (up2 m 69 (40 + 6 * h + 5) v)) := by
  refine JM_of (ls := [some (rf g 68), some (.int (nI h)), some (.int 3), some (.int v), none]) pn_X12 rfl rfl ?_
  refine j_aload0 1 dX12_change_0 rfl ?_
  refine j_iload1 2 dX12_change_1 rfl ?_
  refine j_vi1f 5 dX12_change_2 rfl rfl cl_X12_199 rfl rfl (c_misHeir m _) ?_
  refine j_if_eq_bz 54 8 dX12_change_5 rfl rfl (fun h5 => absurd h1 h5) (fun h5 => ?_)
  refine j_iload2 9 dX12_change_8 rfl ?_
  refine j_i2l 10 dX12_change_9 rfl ?_
  refine j_lconst 11 (v := 0) dX12_change_10 rfl rfl ?_
  refine j_ldc2 14 dX12_change_11 rfl kl_X12_182 ?_
  refine j_st3f 17 dX12_change_14 rfl rfl cl_X12_47 rfl (c_in m _ 0 3) ?_
  refine j_if_eq_bz 54 20 dX12_change_17 rfl rfl (fun h17 => absurd (by decide) h17) (fun h17 => ?_)
  refine j_iload3 21 dX12_change_20 rfl ?_
  refine j_i2l 22 dX12_change_21 rfl ?_
  refine j_lconst 23 (v := 0) dX12_change_22 rfl rfl ?_
  refine j_iload2 24 dX12_change_23 rfl ?_
  refine j_iconst 25 (v := 1) dX12_change_24 rfl rfl ?_
  refine j_cmp_ne 34 28 dX12_change_25 rfl rfl (fun h25 => ?_) (fun h25 => absurd h25 (by decide))
  refine j_iload2 35 dX12_change_34 rfl ?_
  refine j_iconst 36 (v := 3) dX12_change_35 rfl rfl ?_
  refine j_cmp_ne 45 39 dX12_change_36 rfl rfl (fun h36 => absurd h36 (by decide)) (fun h36 => ?_)
  refine j_ldc2 42 dX12_change_39 rfl kl_X12_205 ?_
  refine j_goto 48 dX12_change_42 rfl ?_
  refine j_st3f 51 dX12_change_48 rfl rfl cl_X12_47 rfl (c_in m v 0 9999) ?_
  refine j_if_ne_bz 60 54 dX12_change_51 rfl rfl (fun h51 => ?_) (fun h51 => absurd c h51)
  refine j_iload2 61 dX12_change_60 rfl ?_
  refine j_iconst 62 (v := 2) dX12_change_61 rfl rfl ?_
  refine j_cmp_ne 79 65 dX12_change_62 rfl rfl (fun h62 => ?_) (fun h62 => absurd h62 (by decide))
  refine j_aload0 80 dX12_change_79 rfl ?_
  refine j_iload1 81 dX12_change_80 rfl ?_
  refine j_iconst 82 (v := 2) dX12_change_81 rfl rfl ?_
  refine j_iload2 83 dX12_change_82 rfl ?_
  refine j_iadd 84 dX12_change_83 rfl ?_
  refine j_top (z := nI 5) (by decide) ?_
  refine j_vi2f 87 dX12_change_84 rfl rfl cl_X12_146 rfl rfl (c_of m h 5 hh (by decide)) ?_
  refine j_istore4 89 dX12_change_87 rfl rfl rfl ?_
  refine j_iload2 90 dX12_change_89 rfl ?_
  refine j_iconst 91 (v := 1) dX12_change_90 rfl rfl ?_
  refine j_cmp_ne 103 94 dX12_change_91 rfl rfl (fun h91 => ?_) (fun h91 => absurd h91 (by decide))
  refine j_aload0 104 dX12_change_103 rfl ?_
  refine j_iload1 105 dX12_change_104 rfl ?_
  refine j_iconst 106 (v := 2) dX12_change_105 rfl rfl ?_
  refine j_iload2 107 dX12_change_106 rfl ?_
  refine j_iadd 108 dX12_change_107 rfl ?_
  refine j_top (z := nI 5) (by decide) ?_
  refine j_iload3 109 dX12_change_108 rfl ?_
  refine j_vi3v 112 dX12_change_109 rfl rfl cl_X12_164 rfl rfl (c_sets m h 5 v hh (by decide)) ?_
  refine j_iload4 114 dX12_change_112 rfl ?_
  refine j_iret dX12_change_114 rfl ?_
  exact ⟨rfl, rfl⟩
set_option maxRecDepth 100000 in
theorem e_chgs (m : Mem) (h : Nat) (v : Int32) (hh : h < 8) (h1 : 0 ≤ nI h ∧ nI h < m 9 9 ∧ nI h < 8) (c : 0 ≤ v ∧ v ≤ 15) (hd : ¬ m 15 h = 0) : JM l g 3 mX11_change [rf g 0, .int (nI h), .int 2, .int v] m (RF (some (.int (-1000000003))) (errC 3 m)) := by
  refine JM_of (ls := [some (rf g 0), some (.int (nI h)), some (.int 2), some (.int v), none]) pn_X11 rfl rfl ?_
  refine j_aload0 1 dX11_change_0 rfl ?_
  refine j_iload1 2 dX11_change_1 rfl ?_
  refine j_vi1f 5 dX11_change_2 rfl rfl cl_X11_124 rfl rfl (c_isHeir m _) ?_
  refine j_if_eq_bz 16 8 dX11_change_5 rfl rfl (fun h5 => absurd h1 h5) (fun h5 => ?_)
  refine j_iload2 9 dX11_change_8 rfl ?_
  refine j_iload3 10 dX11_change_9 rfl ?_
  refine j_st2f 13 dX11_change_10 rfl rfl cl_X11_161 rfl (c_isOH2 m v) ?_
  refine j_if_ne_bz 23 16 dX11_change_13 rfl rfl (fun h13 => ?_) (fun h13 => absurd c h13)
  refine j_iload2 24 dX11_change_23 rfl ?_
  refine j_if_ne 51 27 dX11_change_24 rfl rfl (fun h24 => ?_) (fun h24 => absurd h24 (by decide))
  refine j_iload2 52 dX11_change_51 rfl ?_
  refine j_iconst 53 (v := 1) dX11_change_52 rfl rfl ?_
  refine j_cmp_ne 79 56 dX11_change_53 rfl rfl (fun h53 => ?_) (fun h53 => absurd h53 (by decide))
  refine j_iload2 80 dX11_change_79 rfl ?_
  refine j_iconst 81 (v := 3) dX11_change_80 rfl rfl ?_
  refine j_cmp_ne 108 84 dX11_change_81 rfl rfl (fun h81 => ?_) (fun h81 => absurd h81 (by decide))
  refine j_aload0 109 dX11_change_108 rfl ?_
  refine j_getR 112 dX11_change_109 rfl fl_X11_35 rfl rfl ?_
  refine j_iload1 113 dX11_change_112 rfl ?_
  refine j_vi1f 116 dX11_change_113 rfl rfl cl_X11_149 rfl rfl (c_isDust_9 m h hh) ?_
  refine j_if_eq_bz 143 119 dX11_change_116 rfl rfl (fun h116 => ?_) (fun h116 => absurd h116 hd)
  refine j_aload0 144 dX11_change_143 rfl ?_
  refine j_ldc 146 dX11_change_144 rfl kc_X11_169 ?_
  refine j_vi1f 149 dX11_change_146 rfl rfl cl_X11_82 rfl rfl (c_err3 m) ?_
  refine j_istore4 151 dX11_change_149 rfl rfl rfl ?_
  refine j_iload4 153 dX11_change_151 rfl ?_
  refine j_iret dX11_change_153 rfl ?_
  exact ⟨rfl, rfl⟩
set_option maxRecDepth 100000 in
theorem f_chgs (m : Mem) (h : Nat) (v : Int32) (hh : h < 8) (h1 : 0 ≤ nI h ∧ nI h ≤ m 69 0 - 1) (c : 0 ≤ v ∧ v ≤ 15) (hd : ¬ hf (m 69) h 3 = 0) : JM l g 3 mX12_change [rf g 68, .int (nI h), .int 2, .int v] m (RF (some (.int (-1000000003))) (errM 3 m)) := by
  refine JM_of (ls := [some (rf g 68), some (.int (nI h)), some (.int 2), some (.int v), none]) pn_X12 rfl rfl ?_
  refine j_aload0 1 dX12_change_0 rfl ?_
  refine j_iload1 2 dX12_change_1 rfl ?_
  refine j_vi1f 5 dX12_change_2 rfl rfl cl_X12_199 rfl rfl (c_misHeir m _) ?_
  refine j_if_eq_bz 54 8 dX12_change_5 rfl rfl (fun h5 => absurd h1 h5) (fun h5 => ?_)
  refine j_iload2 9 dX12_change_8 rfl ?_
  refine j_i2l 10 dX12_change_9 rfl ?_
  refine j_lconst 11 (v := 0) dX12_change_10 rfl rfl ?_
  refine j_ldc2 14 dX12_change_11 rfl kl_X12_182 ?_
  refine j_st3f 17 dX12_change_14 rfl rfl cl_X12_47 rfl (c_in m _ 0 3) ?_
  refine j_if_eq_bz 54 20 dX12_change_17 rfl rfl (fun h17 => absurd (by decide) h17) (fun h17 => ?_)
  refine j_iload3 21 dX12_change_20 rfl ?_
  refine j_i2l 22 dX12_change_21 rfl ?_
  refine j_lconst 23 (v := 0) dX12_change_22 rfl rfl ?_
  refine j_iload2 24 dX12_change_23 rfl ?_
  refine j_iconst 25 (v := 1) dX12_change_24 rfl rfl ?_
  refine j_cmp_ne 34 28 dX12_change_25 rfl rfl (fun h25 => ?_) (fun h25 => absurd h25 (by decide))
  refine j_iload2 35 dX12_change_34 rfl ?_
  refine j_iconst 36 (v := 3) dX12_change_35 rfl rfl ?_
  refine j_cmp_ne 45 39 dX12_change_36 rfl rfl (fun h36 => ?_) (fun h36 => absurd h36 (by decide))
  refine j_ldc2 48 dX12_change_45 rfl kl_X12_51 ?_
  refine j_st3f 51 dX12_change_48 rfl rfl cl_X12_47 rfl (c_in m v 0 15) ?_
  refine j_if_ne_bz 60 54 dX12_change_51 rfl rfl (fun h51 => ?_) (fun h51 => absurd c h51)
  refine j_iload2 61 dX12_change_60 rfl ?_
  refine j_iconst 62 (v := 2) dX12_change_61 rfl rfl ?_
  refine j_cmp_ne 79 65 dX12_change_62 rfl rfl (fun h62 => absurd h62 (by decide)) (fun h62 => ?_)
  refine j_aload0 66 dX12_change_65 rfl ?_
  refine j_iload1 67 dX12_change_66 rfl ?_
  refine j_vi1f 70 dX12_change_67 rfl rfl cl_X12_149 rfl rfl (c_misDust m h hh) ?_
  refine j_if_ne_bz 79 73 dX12_change_70 rfl rfl (fun h70 => absurd h70 hd) (fun h70 => ?_)
  refine j_aload0 74 dX12_change_73 rfl ?_
  refine j_iconst 75 (v := 3) dX12_change_74 rfl rfl ?_
  refine j_vi1f 78 dX12_change_75 rfl rfl cl_X12_126 rfl rfl (c_finds3 m) ?_
  refine j_iret dX12_change_78 rfl ?_
  exact ⟨rfl, rfl⟩
theorem op_change {m : Mem} (I : INV m) (h w v : Int32) : OPr l g mX11_change mX12_change [.int h, .int w, .int v] m := by
  obtain ⟨⟨wf, hd, hT, hP⟩, -⟩ := id I
  have wn := wf.n
  by_cases h1 : 0 ≤ h ∧ h < m 69 0 ∧ h < 8
  · obtain ⟨j, hj, rfl⟩ := (isH_c wf).mp h1
    have hh : j < 8 := by omega
    have hC : 0 ≤ nI j ∧ nI j < m 9 9 ∧ nI j < 8 := by rw [hT.1]; exact h1
    have hM : 0 ≤ nI j ∧ nI j ≤ m 69 0 - 1 := (isH_m wf).mpr ⟨j, hj, rfl⟩
    have th := hT.2.2.2.2.2.2.2 j hh
    have f2 : m 14 j = hf (m 69) j 2 := th 2 (by decide)
    have f3 : m 15 j = hf (m 69) j 3 := th 3 (by decide)
    obtain ⟨x0, x1, x2, x3, x4, x5, x6⟩ := wf.hw hh
    by_cases w0 : w = 0
    · subst w0
      by_cases c : 0 ≤ v ∧ v ≤ 15
      · obtain ⟨k, hk, ek⟩ := (rngN 15 (by decide)).mp c
        refine ⟨3, 3, _, _, by decide, by decide, o_chg0 m j v hh hC c, fun m' e => ?_⟩
        subst e
        have e69 : (up2 m 14 j v) 69 = m 69 := up2_r (by decide)
        have hq := p_chg0 (l := l) (g := g) (up2 m 14 j v) j v hh (by rw [e69]; exact hM) c
        rw [e69, show hf (m 69) j 2 = m 14 j from (th 2 (by decide)).symm] at hq
        refine hq.mono (RS_w (fun m2 q => ?_))
        subst q
        refine INV_blk I (c0 := m 69 0) (h := j) (v := vChg (m 69) j 0 v) ⟨?_, fun k hk => ?_, fun r hr => ?_, fun r hr i hi => ?_, ?_⟩ (blk_of ?_ (fun r hr => ?_) (fun k k0 hk => ?_)) (Sm.rf.up (by decide)) wf.1 hh ?_
        · rw [up2_a (by decide)]; exact hT.1
        · rw [up2_a (by decide)]
        · unfold vChg
          rw [if_neg (by decide)]
          by_cases q : r = 2
          · subst q
            rw [if_pos rfl]
            exact up2_s
          · rw [if_neg (by omega), up2_a (by omega)]; exact th r hr
        · rw [up2_k hi]
        · exact Sm.rf.up (by decide)
        · rw [up2_k (by omega), e69]
        · show up2 _ 69 (40 + 6 * j + 2) _ 69 (40 + 6 * j + r) = _
          unfold vChg
          rw [if_neg (by decide)]
          by_cases q : r = 2
          · subst q
            rw [if_pos rfl]
            exact up2_s
          · rw [if_neg (by omega), up2_k (by omega), e69]
        · rw [up2_k (by omega)]
        · exact ⟨x0, x1, ⟨k, by omega, ek⟩, x3, x4, x5, x6⟩
      · exact OPr_err I (by decide) (by decide) (by decide) (e_chg0 m j v hC c) (f_chg0 _ j v (by rw [errC_o (by decide)]; exact hM) c)
    by_cases w1 : w = 1
    · subst w1
      by_cases c : 0 ≤ v ∧ v ≤ 99
      · obtain ⟨k, hk, ek⟩ := (rngN 99 (by decide)).mp c
        refine ⟨3, 3, _, _, by decide, by decide, o_chg1 m j v hh hC c, fun m' e => ?_⟩
        subst e
        have e69 : (up2 (up2 m 15 j v) 16 j (if v = 0 then m 14 j else -1)) 69 = m 69 := (up2_r (by decide)).trans (up2_r (by decide))
        have hq := p_chg1 (l := l) (g := g) (up2 (up2 m 15 j v) 16 j (if v = 0 then m 14 j else -1)) j v hh (by rw [e69]; exact hM) c
        rw [e69, show hf (m 69) j 3 = m 15 j from (th 3 (by decide)).symm] at hq
        refine hq.mono (RS_w (fun m2 q => ?_))
        subst q
        refine INV_blk I (c0 := m 69 0) (h := j) (v := vChg (m 69) j 1 v) ⟨?_, fun k hk => ?_, fun r hr => ?_, fun r hr i hi => ?_, ?_⟩ (blk_of ?_ (fun r hr => ?_) (fun k k0 hk => ?_)) ((Sm.rf.up (by decide)).up (by decide)) wf.1 hh ?_
        · rw [up2_a (by decide), up2_a (by decide)]; exact hT.1
        · rw [up2_a (by decide), up2_a (by decide)]
        · unfold vChg
          rw [if_pos rfl]
          rcases (show r = 3 ∨ r = 4 ∨ (r ≠ 3 ∧ r ≠ 4) by omega) with rfl | rfl | ⟨q3, q4⟩
          · show up2 _ 16 j _ 15 j = v
            rw [up2_a (by decide), up2_s]
          · show up2 _ 16 j _ 16 j = (if v = 0 then hf (m 69) j 2 else -1)
            rw [up2_s, f2]
          · rw [if_neg q3, if_neg q4, up2_a (by omega), up2_a (by omega)]; exact th r hr
        · rw [up2_k hi, up2_k hi]
        · exact (Sm.rf.up (by decide)).up (by decide)
        · rw [up2_k (by omega), up2_k (by omega), e69]
        · show up2 _ 69 (40 + 6 * j + 4) _ 69 (40 + 6 * j + r) = _
          unfold vChg
          rw [if_pos rfl]
          rcases (show r = 3 ∨ r = 4 ∨ (r ≠ 3 ∧ r ≠ 4) by omega) with rfl | rfl | ⟨q3, q4⟩
          · rw [up2_k (by omega), up2_s]; rfl
          · rw [up2_s]; rfl
          · rw [if_neg q3, if_neg q4, up2_k (by omega), up2_k (by omega), e69]
        · rw [up2_k (by omega), up2_k (by omega)]
        · refine ⟨x0, x1, x2, ⟨k, by omega, ek⟩, fun z => ?_, fun z => ?_, x6⟩
          · show nb (if v = 0 then hf (m 69) j 2 else -1) 16
            rw [if_pos (show v = 0 from z)]; exact x2
          · show (if v = 0 then hf (m 69) j 2 else -1) = -1
            rw [if_neg (show ¬ v = 0 from z)]
      · exact OPr_err I (by decide) (by decide) (by decide) (e_chg1 m j v hC c) (f_chg1 _ j v (by rw [errC_o (by decide)]; exact hM) c)
    by_cases w2 : w = 2
    · subst w2
      by_cases c : 0 ≤ v ∧ v ≤ 15
      · obtain ⟨k, hk, ek⟩ := (rngN 15 (by decide)).mp c
        by_cases hdu : hf (m 69) j 3 = 0
        · skip
          refine ⟨3, 3, _, _, by decide, by decide, o_chg2 m j v hh hC c (by rw [f3]; exact hdu), fun m' e => ?_⟩
          subst e
          have e69 : (up2 m 16 j v) 69 = m 69 := up2_r (by decide)
          have hq := p_chg2 (l := l) (g := g) (up2 m 16 j v) j v hh (by rw [e69]; exact hM) c (by rw [e69]; exact hdu)
          rw [e69, show hf (m 69) j 4 = m 16 j from (th 4 (by decide)).symm] at hq
          refine hq.mono (RS_w (fun m2 q => ?_))
          subst q
          refine INV_blk I (c0 := m 69 0) (h := j) (v := vChg (m 69) j 2 v) ⟨?_, fun k hk => ?_, fun r hr => ?_, fun r hr i hi => ?_, ?_⟩ (blk_of ?_ (fun r hr => ?_) (fun k k0 hk => ?_)) (Sm.rf.up (by decide)) wf.1 hh ?_
          · rw [up2_a (by decide)]; exact hT.1
          · rw [up2_a (by decide)]
          · unfold vChg
            rw [if_neg (by decide)]
            by_cases q : r = 4
            · subst q
              rw [if_pos rfl]
              exact up2_s
            · rw [if_neg (by omega), up2_a (by omega)]; exact th r hr
          · rw [up2_k hi]
          · exact Sm.rf.up (by decide)
          · rw [up2_k (by omega), e69]
          · show up2 _ 69 (40 + 6 * j + 4) _ 69 (40 + 6 * j + r) = _
            unfold vChg
            rw [if_neg (by decide)]
            by_cases q : r = 4
            · subst q
              rw [if_pos rfl]
              exact up2_s
            · rw [if_neg (by omega), up2_k (by omega), e69]
          · rw [up2_k (by omega)]
          · exact ⟨x0, x1, x2, x3, fun _ => ⟨k, by omega, ek⟩, fun z => absurd hdu z, x6⟩
        · exact OPr_err I (by decide) (by decide) (by decide) (e_chgs m j v hh hC c (by rw [f3]; exact hdu)) (f_chgs _ j v hh (by rw [errC_o (by decide)]; exact hM) c (by rw [errC_o (by decide)]; exact hdu))
      · exact OPr_err I (by decide) (by decide) (by decide) (e_chg2 m j v hC c) (f_chg2 _ j v (by rw [errC_o (by decide)]; exact hM) c)
    by_cases w3 : w = 3
    · subst w3
      by_cases c : 0 ≤ v ∧ v ≤ 9999
      · obtain ⟨k, hk, ek⟩ := (rngN 9999 (by decide)).mp c
        refine ⟨3, 3, _, _, by decide, by decide, o_chg3 m j v hh hC c, fun m' e => ?_⟩
        subst e
        have e69 : (up2 m 17 j v) 69 = m 69 := up2_r (by decide)
        have hq := p_chg3 (l := l) (g := g) (up2 m 17 j v) j v hh (by rw [e69]; exact hM) c
        rw [e69, show hf (m 69) j 5 = m 17 j from (th 5 (by decide)).symm] at hq
        refine hq.mono (RS_w (fun m2 q => ?_))
        subst q
        refine INV_blk I (c0 := m 69 0) (h := j) (v := vChg (m 69) j 3 v) ⟨?_, fun k hk => ?_, fun r hr => ?_, fun r hr i hi => ?_, ?_⟩ (blk_of ?_ (fun r hr => ?_) (fun k k0 hk => ?_)) (Sm.rf.up (by decide)) wf.1 hh ?_
        · rw [up2_a (by decide)]; exact hT.1
        · rw [up2_a (by decide)]
        · unfold vChg
          rw [if_neg (by decide)]
          by_cases q : r = 5
          · subst q
            rw [if_pos rfl]
            exact up2_s
          · rw [if_neg (by omega), up2_a (by omega)]; exact th r hr
        · rw [up2_k hi]
        · exact Sm.rf.up (by decide)
        · rw [up2_k (by omega), e69]
        · show up2 _ 69 (40 + 6 * j + 5) _ 69 (40 + 6 * j + r) = _
          unfold vChg
          rw [if_neg (by decide)]
          by_cases q : r = 5
          · subst q
            rw [if_pos rfl]
            exact up2_s
          · rw [if_neg (by omega), up2_k (by omega), e69]
        · rw [up2_k (by omega)]
        · exact ⟨x0, x1, x2, x3, x4, x5, ⟨k, by omega, ek⟩⟩
      · exact OPr_err I (by decide) (by decide) (by decide) (e_chg3 m j v hC c) (f_chg3 _ j v (by rw [errC_o (by decide)]; exact hM) c)
    have c := not4 w0 w1 w2 w3
    exact OPr_err I (by decide) (by decide) (by decide) (e_chgx m j w v hC c) (f_chgx _ j w v (by rw [errC_o (by decide)]; exact hM) c)
  · exact OPr_err I (by decide) (by decide) (by decide) (e_chgh m h w v (by rw [hT.1]; exact h1)) (f_chgh _ h w v (fun q => h1 ((isH_c wf).mpr ((isH_m wf).mp (by rw [errC_o (by decide)] at q; exact q)))))
end O4
