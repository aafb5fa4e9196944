section SM
variable {l : Launch} {g : Gv}
set_option maxRecDepth 100000 in
theorem c_within (m : Mem) (v a b : Int32) : JM l g 0 mX11_within [.int v, .int a, .int b] m (RF (some (.int (bz (a ≤ v ∧ v ≤ b)))) m) := by
  refine JM_of (ls := [some (.int v), some (.int a), some (.int b)]) pn_X11 rfl rfl ?_
  refine j_iload0 1 dX11_within_0 rfl ?_
  refine j_iload1 2 dX11_within_1 rfl ?_
  refine j_cmp_lt 14 5 dX11_within_2 rfl rfl (fun h2 => ?_) (fun h2 => ?_)
  · refine j_iconst 15 (v := 0) dX11_within_14 rfl rfl ?_
    refine j_zret (by first | exact bz_01 | exact Or.inl rfl | exact Or.inr rfl | assumption) dX11_within_15 rfl ?_
    first | exact rf_t ⟨Int32.not_lt.mp (by assumption), by assumption⟩ | exact rf_f (by intro ⟨p, q⟩; first | exact absurd p (by assumption) | exact absurd q (by assumption) | exact absurd (by assumption) (Int32.not_lt.mpr p) | exact absurd (by assumption) (Int32.not_lt.mpr q))
  · refine j_iload0 6 dX11_within_5 rfl ?_
    refine j_iload2 7 dX11_within_6 rfl ?_
    refine j_cmp_gt 14 10 dX11_within_7 rfl rfl (fun h7 => ?_) (fun h7 => ?_)
    · refine j_iconst 15 (v := 0) dX11_within_14 rfl rfl ?_
      refine j_zret (by first | exact bz_01 | exact Or.inl rfl | exact Or.inr rfl | assumption) dX11_within_15 rfl ?_
      first | exact rf_t ⟨Int32.not_lt.mp (by assumption), by assumption⟩ | exact rf_f (by intro ⟨p, q⟩; first | exact absurd p (by assumption) | exact absurd q (by assumption) | exact absurd (by assumption) (Int32.not_lt.mpr p) | exact absurd (by assumption) (Int32.not_lt.mpr q))
    · refine j_iconst 11 (v := 1) dX11_within_10 rfl rfl ?_
      refine j_goto 15 dX11_within_11 rfl ?_
      refine j_zret (by first | exact bz_01 | exact Or.inl rfl | exact Or.inr rfl | assumption) dX11_within_15 rfl ?_
      first | exact rf_t ⟨Int32.not_lt.mp (by assumption), by assumption⟩ | exact rf_f (by intro ⟨p, q⟩; first | exact absurd p (by assumption) | exact absurd q (by assumption) | exact absurd (by assumption) (Int32.not_lt.mpr p) | exact absurd (by assumption) (Int32.not_lt.mpr q))
set_option maxRecDepth 100000 in
theorem c_isSill (m : Mem) (v : Int32) : JM l g 1 mX11_isSill [.int v] m (RF (some (.int (bz (0 ≤ v ∧ v ≤ 15)))) m) := by
  refine JM_of (ls := [some (.int v)]) pn_X11 rfl rfl ?_
  refine j_iload0 1 dX11_isSill_0 rfl ?_
  refine j_iconst 2 (v := 0) dX11_isSill_1 rfl rfl ?_
  refine j_bipush 4 (v := 15) dX11_isSill_2 rfl rfl ?_
  refine j_st3f 7 dX11_isSill_4 rfl rfl cl_X11_86 rfl (c_within m v 0 15) ?_
  refine j_zret (by first | exact bz_01 | exact Or.inl rfl | exact Or.inr rfl | assumption) dX11_isSill_7 rfl ?_
  exact ⟨rfl, rfl⟩
set_option maxRecDepth 100000 in
theorem c_isDust_9 (m : Mem) (h : Nat) (hh : h < 8) : JM l g 0 mX10_isDust [rf g 9, .int (nI h)] m (RF (some (.int (bz (m 15 h = 0)))) m) := by
  refine JM_of (ls := [some (rf g 9), some (.int (nI h))]) pn_X10 rfl rfl ?_
  refine j_aload0 1 dX10_isDust_0 rfl ?_
  refine j_getR 4 dX10_isDust_1 rfl fl_X10_27 rfl rfl ?_
  refine j_iload1 5 dX10_isDust_4 rfl ?_
  refine j_iald 6 _ rfl (by first | assumption | decide | omega) dX10_isDust_5 rfl rfl ?_
  refine j_if_ne 13 9 dX10_isDust_6 rfl rfl (fun h6 => ?_) (fun h6 => ?_)
  · refine j_iconst 14 (v := 0) dX10_isDust_13 rfl rfl ?_
    refine j_zret (by first | exact bz_01 | exact Or.inl rfl | exact Or.inr rfl | assumption) dX10_isDust_14 rfl ?_
    first | exact rf_t (by assumption) | exact rf_f (by assumption)
  · refine j_iconst 10 (v := 1) dX10_isDust_9 rfl rfl ?_
    refine j_goto 14 dX10_isDust_10 rfl ?_
    refine j_zret (by first | exact bz_01 | exact Or.inl rfl | exact Or.inr rfl | assumption) dX10_isDust_14 rfl ?_
    first | exact rf_t (by assumption) | exact rf_f (by assumption)
set_option maxRecDepth 100000 in
theorem c_isDust_18 (m : Mem) (h : Nat) (hh : h < 8) : JM l g 0 mX10_isDust [rf g 18, .int (nI h)] m (RF (some (.int (bz (m 24 h = 0)))) m) := by
  refine JM_of (ls := [some (rf g 18), some (.int (nI h))]) pn_X10 rfl rfl ?_
  refine j_aload0 1 dX10_isDust_0 rfl ?_
  refine j_getR 4 dX10_isDust_1 rfl fl_X10_27 rfl rfl ?_
  refine j_iload1 5 dX10_isDust_4 rfl ?_
  refine j_iald 6 _ rfl (by first | assumption | decide | omega) dX10_isDust_5 rfl rfl ?_
  refine j_if_ne 13 9 dX10_isDust_6 rfl rfl (fun h6 => ?_) (fun h6 => ?_)
  · refine j_iconst 14 (v := 0) dX10_isDust_13 rfl rfl ?_
    refine j_zret (by first | exact bz_01 | exact Or.inl rfl | exact Or.inr rfl | assumption) dX10_isDust_14 rfl ?_
    first | exact rf_t (by assumption) | exact rf_f (by assumption)
  · refine j_iconst 10 (v := 1) dX10_isDust_9 rfl rfl ?_
    refine j_goto 14 dX10_isDust_10 rfl ?_
    refine j_zret (by first | exact bz_01 | exact Or.inl rfl | exact Or.inr rfl | assumption) dX10_isDust_14 rfl ?_
    first | exact rf_t (by assumption) | exact rf_f (by assumption)
end SM
