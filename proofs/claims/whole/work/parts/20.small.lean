def irm (x z : Int32) : Int32 := x - x / z * z
theorem j_irm {l : Launch} {g : Gv} {d : Nat} {y : MD} {pc : Nat} {ls : List (Option Value)} {st : List Value} {m : Mem} {Q : Option Value → Mem → Prop} (pc' : Nat) {x z : Int32} (hdg : decode y.2.1 pc = .ok (.irem, 1)) (hp : pc + 1 = pc') (hne : ¬ z = 0) (kk : J l g d y pc' ls (.int (irm x z) :: st) m Q) : J l g d y pc ls (.int z :: .int x :: st) m Q := j_irem pc' hdg hp hne kk
def bcF (x : Int32) : Int32 :=
  let us (a k : Int32) : Int32 := (a.toUInt32 >>> (k.toUInt32 &&& Int32.toUInt32 31)).toInt32
  let a := x - (us x 1 &&& 1431655765)
  let b := (a &&& 858993459) + (us a 2 &&& 858993459)
  let c := (b + us b 4) &&& 252645135
  let d := c + us c 8
  let e := d + us d 16
  e &&& 63
def setF (P : Nat → Prop) [DecidablePred P] : Nat → Int32
  | 0 => 0
  | n + 1 => if P n then setF P n ||| ((1 : Int32) <<< (nI n &&& 31)) else setF P n
section SM
variable {l : Launch} {g : Gv}
set_option maxRecDepth 100000 in
theorem c_within (m : Mem) (v a b : Int32) : JM l g 0 mX11_within [.int v, .int a, .int b] m (RF (some (.int (bz (a ≤ v ∧ v ≤ b)))) m) := by
  refine JM_of (ls := [some (.int v), some (.int a), some (.int b)]) pn_X11 rfl rfl ?_
  refine j_iload0 1 dX11_within_0 rfl ?_
  refine j_iload1 2 dX11_within_1 rfl ?_
  refine j_cmp_lt 14 5 dX11_within_2 rfl rfl (fun h2 => ?_) (fun h2 => ?_)
  · refine j_iconst 15 (v := 0) dX11_within_14 rfl rfl ?_
    refine j_zret (by first | exact bz_01 | exact Or.inl rfl | exact Or.inr rfl | assumption) dX11_within_15 rfl ?_
    first | exact rf_f (fun q => absurd q.1 (Int32.not_le.mpr h2)) | exact rf_f (fun q => absurd q.2 (Int32.not_le.mpr h7)) | exact rf_t ⟨Int32.not_lt.mp h2, Int32.not_lt.mp h7⟩
  · refine j_iload0 6 dX11_within_5 rfl ?_
    refine j_iload2 7 dX11_within_6 rfl ?_
    refine j_cmp_gt 14 10 dX11_within_7 rfl rfl (fun h7 => ?_) (fun h7 => ?_)
    · refine j_iconst 15 (v := 0) dX11_within_14 rfl rfl ?_
      refine j_zret (by first | exact bz_01 | exact Or.inl rfl | exact Or.inr rfl | assumption) dX11_within_15 rfl ?_
      first | exact rf_f (fun q => absurd q.1 (Int32.not_le.mpr h2)) | exact rf_f (fun q => absurd q.2 (Int32.not_le.mpr h7)) | exact rf_t ⟨Int32.not_lt.mp h2, Int32.not_lt.mp h7⟩
    · refine j_iconst 11 (v := 1) dX11_within_10 rfl rfl ?_
      refine j_goto 15 dX11_within_11 rfl ?_
      refine j_zret (by first | exact bz_01 | exact Or.inl rfl | exact Or.inr rfl | assumption) dX11_within_15 rfl ?_
      first | exact rf_f (fun q => absurd q.1 (Int32.not_le.mpr h2)) | exact rf_f (fun q => absurd q.2 (Int32.not_le.mpr h7)) | exact rf_t ⟨Int32.not_lt.mp h2, Int32.not_lt.mp h7⟩
set_option maxRecDepth 100000 in
theorem c_isSill (m : Mem) (v : Int32) : JM l g 1 mX11_isSill [.int v] m (RF (some (.int (bz (0 ≤ v ∧ v ≤ 15)))) m) := by
  refine JM_of (ls := [some (.int v)]) pn_X11 rfl rfl ?_
  refine j_iload0 1 dX11_isSill_0 rfl ?_
  refine j_iconst 2 (v := 0) dX11_isSill_1 rfl rfl ?_
  refine j_bipush 4 (v := 15) dX11_isSill_2 rfl rfl ?_
  refine j_st3f 7 dX11_isSill_4 rfl rfl cl_X11_86 rfl (c_within m v 0 15) ?_
  refine j_zret (by first | exact bz_01 | exact Or.inl rfl | exact Or.inr rfl | assumption) dX11_isSill_7 rfl ?_
  exact ⟨rfl, rfl⟩
set_option maxRecDepth 100000 in
theorem c_isSheet (m : Mem) (v : Int32) : JM l g 1 mX11_isSheet [.int v] m (RF (some (.int (bz (0 ≤ v ∧ v ≤ 3)))) m) := by
  refine JM_of (ls := [some (.int v)]) pn_X11 rfl rfl ?_
  refine j_iload0 1 dX11_isSheet_0 rfl ?_
  refine j_iconst 2 (v := 0) dX11_isSheet_1 rfl rfl ?_
  refine j_iconst 3 (v := 3) dX11_isSheet_2 rfl rfl ?_
  refine j_st3f 6 dX11_isSheet_3 rfl rfl cl_X11_86 rfl (c_within m v 0 3) ?_
  refine j_zret (by first | exact bz_01 | exact Or.inl rfl | exact Or.inr rfl | assumption) dX11_isSheet_6 rfl ?_
  exact ⟨rfl, rfl⟩
set_option maxRecDepth 100000 in
theorem c_isKM (m : Mem) (v : Int32) : JM l g 1 mX11_isKindAndNumber [.int v] m (RF (some (.int (bz (0 ≤ v ∧ v ≤ 69)))) m) := by
  refine JM_of (ls := [some (.int v)]) pn_X11 rfl rfl ?_
  refine j_iload0 1 dX11_isKindAndNumber_0 rfl ?_
  refine j_iconst 2 (v := 0) dX11_isKindAndNumber_1 rfl rfl ?_
  refine j_bipush 4 (v := 69) dX11_isKindAndNumber_2 rfl rfl ?_
  refine j_st3f 7 dX11_isKindAndNumber_4 rfl rfl cl_X11_86 rfl (c_within m v 0 69) ?_
  refine j_zret (by first | exact bz_01 | exact Or.inl rfl | exact Or.inr rfl | assumption) dX11_isKindAndNumber_7 rfl ?_
  exact ⟨rfl, rfl⟩
set_option maxRecDepth 100000 in
theorem c_err1 (m : Mem) : JM l g 1 mX11_error [rf g 0, .int (-1000000001)] m (RF (some (.int (-1000000001))) (up2 m 67 1 (m 67 1 + 1))) := by
  refine JM_of (ls := [some (rf g 0), some (.int (-1000000001)), none]) pn_X11 rfl rfl ?_
  refine j_ldcw 3 dX11_error_0 rfl kc_X11_323 ?_
  refine j_iload1 4 dX11_error_3 rfl ?_
  refine j_isub 5 dX11_error_4 rfl ?_
  refine j_top (z := 1) (by decide) ?_
  refine j_istore2 6 dX11_error_5 rfl rfl rfl ?_
  refine j_iload2 7 dX11_error_6 rfl ?_
  refine j_iconst 8 (v := 1) dX11_error_7 rfl rfl ?_
  refine j_iconst 9 (v := 5) dX11_error_8 rfl rfl ?_
  refine j_st3f 12 dX11_error_9 rfl rfl cl_X11_86 rfl (c_within m 1 1 5) ?_
  refine j_if_eq_bz 25 15 dX11_error_12 rfl rfl (fun h12 => absurd h12 (fun q => q (by decide))) (fun h12 => ?_)
  refine j_aload0 16 dX11_error_15 rfl ?_
  refine j_getR 19 dX11_error_16 rfl fl_X11_74 rfl rfl ?_
  refine j_iload2 20 dX11_error_19 rfl ?_
  refine j_dup2 21 dX11_error_20 rfl rfl rfl ?_
  refine j_iald 22 1 rfl (by first | assumption | decide | omega) dX11_error_21 rfl rfl ?_
  refine j_iconst 23 (v := 1) dX11_error_22 rfl rfl ?_
  refine j_iadd 24 dX11_error_23 rfl ?_
  refine j_iast 25 1 rfl (by first | assumption | decide | omega) dX11_error_24 rfl rfl ?_
  refine j_iload1 26 dX11_error_25 rfl ?_
  refine j_iret dX11_error_26 rfl ?_
  exact ⟨rfl, rfl⟩
set_option maxRecDepth 100000 in
theorem c_err2 (m : Mem) : JM l g 1 mX11_error [rf g 0, .int (-1000000002)] m (RF (some (.int (-1000000002))) (up2 m 67 2 (m 67 2 + 1))) := by
  refine JM_of (ls := [some (rf g 0), some (.int (-1000000002)), none]) pn_X11 rfl rfl ?_
  refine j_ldcw 3 dX11_error_0 rfl kc_X11_323 ?_
  refine j_iload1 4 dX11_error_3 rfl ?_
  refine j_isub 5 dX11_error_4 rfl ?_
  refine j_top (z := 2) (by decide) ?_
  refine j_istore2 6 dX11_error_5 rfl rfl rfl ?_
  refine j_iload2 7 dX11_error_6 rfl ?_
  refine j_iconst 8 (v := 1) dX11_error_7 rfl rfl ?_
  refine j_iconst 9 (v := 5) dX11_error_8 rfl rfl ?_
  refine j_st3f 12 dX11_error_9 rfl rfl cl_X11_86 rfl (c_within m 2 1 5) ?_
  refine j_if_eq_bz 25 15 dX11_error_12 rfl rfl (fun h12 => absurd h12 (fun q => q (by decide))) (fun h12 => ?_)
  refine j_aload0 16 dX11_error_15 rfl ?_
  refine j_getR 19 dX11_error_16 rfl fl_X11_74 rfl rfl ?_
  refine j_iload2 20 dX11_error_19 rfl ?_
  refine j_dup2 21 dX11_error_20 rfl rfl rfl ?_
  refine j_iald 22 2 rfl (by first | assumption | decide | omega) dX11_error_21 rfl rfl ?_
  refine j_iconst 23 (v := 1) dX11_error_22 rfl rfl ?_
  refine j_iadd 24 dX11_error_23 rfl ?_
  refine j_iast 25 2 rfl (by first | assumption | decide | omega) dX11_error_24 rfl rfl ?_
  refine j_iload1 26 dX11_error_25 rfl ?_
  refine j_iret dX11_error_26 rfl ?_
  exact ⟨rfl, rfl⟩
set_option maxRecDepth 100000 in
theorem c_err3 (m : Mem) : JM l g 1 mX11_error [rf g 0, .int (-1000000003)] m (RF (some (.int (-1000000003))) (up2 m 67 3 (m 67 3 + 1))) := by
  refine JM_of (ls := [some (rf g 0), some (.int (-1000000003)), none]) pn_X11 rfl rfl ?_
  refine j_ldcw 3 dX11_error_0 rfl kc_X11_323 ?_
  refine j_iload1 4 dX11_error_3 rfl ?_
  refine j_isub 5 dX11_error_4 rfl ?_
  refine j_top (z := 3) (by decide) ?_
  refine j_istore2 6 dX11_error_5 rfl rfl rfl ?_
  refine j_iload2 7 dX11_error_6 rfl ?_
  refine j_iconst 8 (v := 1) dX11_error_7 rfl rfl ?_
  refine j_iconst 9 (v := 5) dX11_error_8 rfl rfl ?_
  refine j_st3f 12 dX11_error_9 rfl rfl cl_X11_86 rfl (c_within m 3 1 5) ?_
  refine j_if_eq_bz 25 15 dX11_error_12 rfl rfl (fun h12 => absurd h12 (fun q => q (by decide))) (fun h12 => ?_)
  refine j_aload0 16 dX11_error_15 rfl ?_
  refine j_getR 19 dX11_error_16 rfl fl_X11_74 rfl rfl ?_
  refine j_iload2 20 dX11_error_19 rfl ?_
  refine j_dup2 21 dX11_error_20 rfl rfl rfl ?_
  refine j_iald 22 3 rfl (by first | assumption | decide | omega) dX11_error_21 rfl rfl ?_
  refine j_iconst 23 (v := 1) dX11_error_22 rfl rfl ?_
  refine j_iadd 24 dX11_error_23 rfl ?_
  refine j_iast 25 3 rfl (by first | assumption | decide | omega) dX11_error_24 rfl rfl ?_
  refine j_iload1 26 dX11_error_25 rfl ?_
  refine j_iret dX11_error_26 rfl ?_
  exact ⟨rfl, rfl⟩
set_option maxRecDepth 100000 in
theorem c_err4 (m : Mem) : JM l g 1 mX11_error [rf g 0, .int (-1000000004)] m (RF (some (.int (-1000000004))) (up2 m 67 4 (m 67 4 + 1))) := by
  refine JM_of (ls := [some (rf g 0), some (.int (-1000000004)), none]) pn_X11 rfl rfl ?_
  refine j_ldcw 3 dX11_error_0 rfl kc_X11_323 ?_
  refine j_iload1 4 dX11_error_3 rfl ?_
  refine j_isub 5 dX11_error_4 rfl ?_
  refine j_top (z := 4) (by decide) ?_
  refine j_istore2 6 dX11_error_5 rfl rfl rfl ?_
  refine j_iload2 7 dX11_error_6 rfl ?_
  refine j_iconst 8 (v := 1) dX11_error_7 rfl rfl ?_
  refine j_iconst 9 (v := 5) dX11_error_8 rfl rfl ?_
  refine j_st3f 12 dX11_error_9 rfl rfl cl_X11_86 rfl (c_within m 4 1 5) ?_
  refine j_if_eq_bz 25 15 dX11_error_12 rfl rfl (fun h12 => absurd h12 (fun q => q (by decide))) (fun h12 => ?_)
  refine j_aload0 16 dX11_error_15 rfl ?_
  refine j_getR 19 dX11_error_16 rfl fl_X11_74 rfl rfl ?_
  refine j_iload2 20 dX11_error_19 rfl ?_
  refine j_dup2 21 dX11_error_20 rfl rfl rfl ?_
  refine j_iald 22 4 rfl (by first | assumption | decide | omega) dX11_error_21 rfl rfl ?_
  refine j_iconst 23 (v := 1) dX11_error_22 rfl rfl ?_
  refine j_iadd 24 dX11_error_23 rfl ?_
  refine j_iast 25 4 rfl (by first | assumption | decide | omega) dX11_error_24 rfl rfl ?_
  refine j_iload1 26 dX11_error_25 rfl ?_
  refine j_iret dX11_error_26 rfl ?_
  exact ⟨rfl, rfl⟩
set_option maxRecDepth 100000 in
theorem c_err5 (m : Mem) : JM l g 1 mX11_error [rf g 0, .int (-1000000005)] m (RF (some (.int (-1000000005))) (up2 m 67 5 (m 67 5 + 1))) := by
  refine JM_of (ls := [some (rf g 0), some (.int (-1000000005)), none]) pn_X11 rfl rfl ?_
  refine j_ldcw 3 dX11_error_0 rfl kc_X11_323 ?_
  refine j_iload1 4 dX11_error_3 rfl ?_
  refine j_isub 5 dX11_error_4 rfl ?_
  refine j_top (z := 5) (by decide) ?_
  refine j_istore2 6 dX11_error_5 rfl rfl rfl ?_
  refine j_iload2 7 dX11_error_6 rfl ?_
  refine j_iconst 8 (v := 1) dX11_error_7 rfl rfl ?_
  refine j_iconst 9 (v := 5) dX11_error_8 rfl rfl ?_
  refine j_st3f 12 dX11_error_9 rfl rfl cl_X11_86 rfl (c_within m 5 1 5) ?_
  refine j_if_eq_bz 25 15 dX11_error_12 rfl rfl (fun h12 => absurd h12 (fun q => q (by decide))) (fun h12 => ?_)
  refine j_aload0 16 dX11_error_15 rfl ?_
  refine j_getR 19 dX11_error_16 rfl fl_X11_74 rfl rfl ?_
  refine j_iload2 20 dX11_error_19 rfl ?_
  refine j_dup2 21 dX11_error_20 rfl rfl rfl ?_
  refine j_iald 22 5 rfl (by first | assumption | decide | omega) dX11_error_21 rfl rfl ?_
  refine j_iconst 23 (v := 1) dX11_error_22 rfl rfl ?_
  refine j_iadd 24 dX11_error_23 rfl ?_
  refine j_iast 25 5 rfl (by first | assumption | decide | omega) dX11_error_24 rfl rfl ?_
  refine j_iload1 26 dX11_error_25 rfl ?_
  refine j_iret dX11_error_26 rfl ?_
  exact ⟨rfl, rfl⟩
set_option maxRecDepth 100000 in
theorem c_isHeir (m : Mem) (h : Int32) : JM l g 0 mX11_isHeir [rf g 0, .int h] m (RF (some (.int (bz (0 ≤ h ∧ h < m 9 9 ∧ h < 8)))) m) := by
  refine JM_of (ls := [some (rf g 0), some (.int h)]) pn_X11 rfl rfl ?_
  refine j_iload1 1 dX11_isHeir_0 rfl ?_
  refine j_if_lt 25 4 dX11_isHeir_1 rfl rfl (fun h1 => ?_) (fun h1 => ?_)
  · refine j_iconst 26 (v := 0) dX11_isHeir_25 rfl rfl ?_
    refine j_zret (by first | exact bz_01 | exact Or.inl rfl | exact Or.inr rfl | assumption) dX11_isHeir_26 rfl ?_
    first | exact rf_f (fun q => absurd q.1 (Int32.not_le.mpr h1)) | exact rf_f (fun q => absurd h12 (Int32.not_le.mpr q.2.1)) | exact rf_f (fun q => absurd h18 (Int32.not_le.mpr q.2.2)) | exact rf_t ⟨Int32.not_lt.mp h1, Int32.not_le.mp h12, Int32.not_le.mp h18⟩
  · refine j_iload1 5 dX11_isHeir_4 rfl ?_
    refine j_aload0 6 dX11_isHeir_5 rfl ?_
    refine j_getR 9 dX11_isHeir_6 rfl fl_X11_35 rfl rfl ?_
    refine j_getI 12 dX11_isHeir_9 rfl fl_X11_116 rfl rfl ?_
    refine j_cmp_ge 25 15 dX11_isHeir_12 rfl rfl (fun h12 => ?_) (fun h12 => ?_)
    · refine j_iconst 26 (v := 0) dX11_isHeir_25 rfl rfl ?_
      refine j_zret (by first | exact bz_01 | exact Or.inl rfl | exact Or.inr rfl | assumption) dX11_isHeir_26 rfl ?_
      first | exact rf_f (fun q => absurd q.1 (Int32.not_le.mpr h1)) | exact rf_f (fun q => absurd h12 (Int32.not_le.mpr q.2.1)) | exact rf_f (fun q => absurd h18 (Int32.not_le.mpr q.2.2)) | exact rf_t ⟨Int32.not_lt.mp h1, Int32.not_le.mp h12, Int32.not_le.mp h18⟩
    · refine j_iload1 16 dX11_isHeir_15 rfl ?_
      refine j_bipush 18 (v := 8) dX11_isHeir_16 rfl rfl ?_
      refine j_cmp_ge 25 21 dX11_isHeir_18 rfl rfl (fun h18 => ?_) (fun h18 => ?_)
      · refine j_iconst 26 (v := 0) dX11_isHeir_25 rfl rfl ?_
        refine j_zret (by first | exact bz_01 | exact Or.inl rfl | exact Or.inr rfl | assumption) dX11_isHeir_26 rfl ?_
        first | exact rf_f (fun q => absurd q.1 (Int32.not_le.mpr h1)) | exact rf_f (fun q => absurd h12 (Int32.not_le.mpr q.2.1)) | exact rf_f (fun q => absurd h18 (Int32.not_le.mpr q.2.2)) | exact rf_t ⟨Int32.not_lt.mp h1, Int32.not_le.mp h12, Int32.not_le.mp h18⟩
      · refine j_iconst 22 (v := 1) dX11_isHeir_21 rfl rfl ?_
        refine j_goto 26 dX11_isHeir_22 rfl ?_
        refine j_zret (by first | exact bz_01 | exact Or.inl rfl | exact Or.inr rfl | assumption) dX11_isHeir_26 rfl ?_
        first | exact rf_f (fun q => absurd q.1 (Int32.not_le.mpr h1)) | exact rf_f (fun q => absurd h12 (Int32.not_le.mpr q.2.1)) | exact rf_f (fun q => absurd h18 (Int32.not_le.mpr q.2.2)) | exact rf_t ⟨Int32.not_lt.mp h1, Int32.not_le.mp h12, Int32.not_le.mp h18⟩
set_option maxRecDepth 100000 in
theorem c_isSet (m : Mem) (h : Int32) : JM l g 0 mX11_isSetOfHeirs [rf g 0, .int h] m (RF (some (.int (bz (0 ≤ h ∧ h < (1 : Int32) <<< (m 9 9 &&& 31))))) m) := by
  refine JM_of (ls := [some (rf g 0), some (.int h)]) pn_X11 rfl rfl ?_
  refine j_iload1 1 dX11_isSetOfHeirs_0 rfl ?_
  refine j_if_lt 21 4 dX11_isSetOfHeirs_1 rfl rfl (fun h1 => ?_) (fun h1 => ?_)
  · refine j_iconst 22 (v := 0) dX11_isSetOfHeirs_21 rfl rfl ?_
    refine j_zret (by first | exact bz_01 | exact Or.inl rfl | exact Or.inr rfl | assumption) dX11_isSetOfHeirs_22 rfl ?_
    first | exact rf_f (fun q => absurd q.1 (Int32.not_le.mpr h1)) | exact rf_f (fun q => absurd h14 (Int32.not_le.mpr q.2)) | exact rf_t ⟨Int32.not_lt.mp h1, Int32.not_le.mp h14⟩
  · refine j_iload1 5 dX11_isSetOfHeirs_4 rfl ?_
    refine j_iconst 6 (v := 1) dX11_isSetOfHeirs_5 rfl rfl ?_
    refine j_aload0 7 dX11_isSetOfHeirs_6 rfl ?_
    refine j_getR 10 dX11_isSetOfHeirs_7 rfl fl_X11_35 rfl rfl ?_
    refine j_getI 13 dX11_isSetOfHeirs_10 rfl fl_X11_116 rfl rfl ?_
    refine j_ishl 14 dX11_isSetOfHeirs_13 rfl ?_
    refine j_cmp_ge 21 17 dX11_isSetOfHeirs_14 rfl rfl (fun h14 => ?_) (fun h14 => ?_)
    · refine j_iconst 22 (v := 0) dX11_isSetOfHeirs_21 rfl rfl ?_
      refine j_zret (by first | exact bz_01 | exact Or.inl rfl | exact Or.inr rfl | assumption) dX11_isSetOfHeirs_22 rfl ?_
      first | exact rf_f (fun q => absurd q.1 (Int32.not_le.mpr h1)) | exact rf_f (fun q => absurd h14 (Int32.not_le.mpr q.2)) | exact rf_t ⟨Int32.not_lt.mp h1, Int32.not_le.mp h14⟩
    · refine j_iconst 18 (v := 1) dX11_isSetOfHeirs_17 rfl rfl ?_
      refine j_goto 22 dX11_isSetOfHeirs_18 rfl ?_
      refine j_zret (by first | exact bz_01 | exact Or.inl rfl | exact Or.inr rfl | assumption) dX11_isSetOfHeirs_22 rfl ?_
      first | exact rf_f (fun q => absurd q.1 (Int32.not_le.mpr h1)) | exact rf_f (fun q => absurd h14 (Int32.not_le.mpr q.2)) | exact rf_t ⟨Int32.not_lt.mp h1, Int32.not_le.mp h14⟩
set_option maxRecDepth 100000 in
theorem c_isMissing (m : Mem) (s : Nat) (hs : s < 4) : JM l g 0 mX11_isMissing [rf g 0, .int (nI s)] m (RF (some (.int (bz (m 65 s = 0)))) m) := by
  refine JM_of (ls := [some (rf g 0), some (.int (nI s))]) pn_X11 rfl rfl ?_
  refine j_aload0 1 dX11_isMissing_0 rfl ?_
  refine j_getR 4 dX11_isMissing_1 rfl fl_X11_67 rfl rfl ?_
  refine j_iload1 5 dX11_isMissing_4 rfl ?_
  refine j_iald 6 _ rfl (by first | assumption | decide | omega) dX11_isMissing_5 rfl rfl ?_
  refine j_if_ne 13 9 dX11_isMissing_6 rfl rfl (fun h6 => ?_) (fun h6 => ?_)
  · refine j_iconst 14 (v := 0) dX11_isMissing_13 rfl rfl ?_
    refine j_zret (by first | exact bz_01 | exact Or.inl rfl | exact Or.inr rfl | assumption) dX11_isMissing_14 rfl ?_
    first | exact rf_t (by assumption) | exact rf_f (by assumption)
  · refine j_iconst 10 (v := 1) dX11_isMissing_9 rfl rfl ?_
    refine j_goto 14 dX11_isMissing_10 rfl ?_
    refine j_zret (by first | exact bz_01 | exact Or.inl rfl | exact Or.inr rfl | assumption) dX11_isMissing_14 rfl ?_
    first | exact rf_t (by assumption) | exact rf_f (by assumption)
set_option maxRecDepth 100000 in
theorem c_stand (m : Mem) (s : Nat) (hs : s < 4) (i n : Int32) : JM l g 0 mX11_stand [rf g 0, .int (nI s), .int i, .int n] m (RF (some (.int (bz (0 ≤ n ∧ 0 ≤ i ∧ n ≤ m 66 s ∧ i ≤ m 66 s - n)))) m) := by
  refine JM_of (ls := [some (rf g 0), some (.int (nI s)), some (.int i), some (.int n)]) pn_X11 rfl rfl ?_
  refine j_iload3 1 dX11_stand_0 rfl ?_
  refine j_if_lt 34 4 dX11_stand_1 rfl rfl (fun h1 => ?_) (fun h1 => ?_)
  · refine j_iconst 35 (v := 0) dX11_stand_34 rfl rfl ?_
    refine j_zret (by first | exact bz_01 | exact Or.inl rfl | exact Or.inr rfl | assumption) dX11_stand_35 rfl ?_
    first | exact rf_f (fun q => absurd q.1 (Int32.not_le.mpr h1)) | exact rf_f (fun q => absurd q.2.1 (Int32.not_le.mpr h5)) | exact rf_f (fun q => absurd q.2.2.1 (Int32.not_le.mpr h15)) | exact rf_f (fun q => absurd q.2.2.2 (Int32.not_le.mpr h27)) | exact rf_t ⟨Int32.not_lt.mp h1, Int32.not_lt.mp h5, Int32.not_lt.mp h15, Int32.not_lt.mp h27⟩
  · refine j_iload2 5 dX11_stand_4 rfl ?_
    refine j_if_lt 34 8 dX11_stand_5 rfl rfl (fun h5 => ?_) (fun h5 => ?_)
    · refine j_iconst 35 (v := 0) dX11_stand_34 rfl rfl ?_
      refine j_zret (by first | exact bz_01 | exact Or.inl rfl | exact Or.inr rfl | assumption) dX11_stand_35 rfl ?_
      first | exact rf_f (fun q => absurd q.1 (Int32.not_le.mpr h1)) | exact rf_f (fun q => absurd q.2.1 (Int32.not_le.mpr h5)) | exact rf_f (fun q => absurd q.2.2.1 (Int32.not_le.mpr h15)) | exact rf_f (fun q => absurd q.2.2.2 (Int32.not_le.mpr h27)) | exact rf_t ⟨Int32.not_lt.mp h1, Int32.not_lt.mp h5, Int32.not_lt.mp h15, Int32.not_lt.mp h27⟩
    · refine j_iload3 9 dX11_stand_8 rfl ?_
      refine j_aload0 10 dX11_stand_9 rfl ?_
      refine j_getR 13 dX11_stand_10 rfl fl_X11_71 rfl rfl ?_
      refine j_iload1 14 dX11_stand_13 rfl ?_
      refine j_iald 15 _ rfl (by first | assumption | decide | omega) dX11_stand_14 rfl rfl ?_
      refine j_cmp_gt 34 18 dX11_stand_15 rfl rfl (fun h15 => ?_) (fun h15 => ?_)
      · refine j_iconst 35 (v := 0) dX11_stand_34 rfl rfl ?_
        refine j_zret (by first | exact bz_01 | exact Or.inl rfl | exact Or.inr rfl | assumption) dX11_stand_35 rfl ?_
        first | exact rf_f (fun q => absurd q.1 (Int32.not_le.mpr h1)) | exact rf_f (fun q => absurd q.2.1 (Int32.not_le.mpr h5)) | exact rf_f (fun q => absurd q.2.2.1 (Int32.not_le.mpr h15)) | exact rf_f (fun q => absurd q.2.2.2 (Int32.not_le.mpr h27)) | exact rf_t ⟨Int32.not_lt.mp h1, Int32.not_lt.mp h5, Int32.not_lt.mp h15, Int32.not_lt.mp h27⟩
      · refine j_iload2 19 dX11_stand_18 rfl ?_
        refine j_aload0 20 dX11_stand_19 rfl ?_
        refine j_getR 23 dX11_stand_20 rfl fl_X11_71 rfl rfl ?_
        refine j_iload1 24 dX11_stand_23 rfl ?_
        refine j_iald 25 _ rfl (by first | assumption | decide | omega) dX11_stand_24 rfl rfl ?_
        refine j_iload3 26 dX11_stand_25 rfl ?_
        refine j_isub 27 dX11_stand_26 rfl ?_
        refine j_cmp_gt 34 30 dX11_stand_27 rfl rfl (fun h27 => ?_) (fun h27 => ?_)
        · refine j_iconst 35 (v := 0) dX11_stand_34 rfl rfl ?_
          refine j_zret (by first | exact bz_01 | exact Or.inl rfl | exact Or.inr rfl | assumption) dX11_stand_35 rfl ?_
          first | exact rf_f (fun q => absurd q.1 (Int32.not_le.mpr h1)) | exact rf_f (fun q => absurd q.2.1 (Int32.not_le.mpr h5)) | exact rf_f (fun q => absurd q.2.2.1 (Int32.not_le.mpr h15)) | exact rf_f (fun q => absurd q.2.2.2 (Int32.not_le.mpr h27)) | exact rf_t ⟨Int32.not_lt.mp h1, Int32.not_lt.mp h5, Int32.not_lt.mp h15, Int32.not_lt.mp h27⟩
        · refine j_iconst 31 (v := 1) dX11_stand_30 rfl rfl ?_
          refine j_goto 35 dX11_stand_31 rfl ?_
          refine j_zret (by first | exact bz_01 | exact Or.inl rfl | exact Or.inr rfl | assumption) dX11_stand_35 rfl ?_
          first | exact rf_f (fun q => absurd q.1 (Int32.not_le.mpr h1)) | exact rf_f (fun q => absurd q.2.1 (Int32.not_le.mpr h5)) | exact rf_f (fun q => absurd q.2.2.1 (Int32.not_le.mpr h15)) | exact rf_f (fun q => absurd q.2.2.2 (Int32.not_le.mpr h27)) | exact rf_t ⟨Int32.not_lt.mp h1, Int32.not_lt.mp h5, Int32.not_lt.mp h15, Int32.not_lt.mp h27⟩
set_option maxRecDepth 100000 in
theorem c_lowest (m : Mem) (b v : Int32) : JM l g 0 mX11_lowestBits [.int b, .int v] m (RF (some (.int (if b = 8 then v.toInt8.toInt32 else if b = 16 then v.toInt16.toInt32 else v))) m) := by
  refine JM_of (ls := [some (.int b), some (.int v)]) pn_X11 rfl rfl ?_
  refine j_iload0 1 dX11_lowestBits_0 rfl ?_
  refine j_bipush 3 (v := 8) dX11_lowestBits_1 rfl rfl ?_
  refine j_cmp_ne 11 6 dX11_lowestBits_3 rfl rfl (fun h3 => ?_) (fun h3 => ?_)
  · refine j_iload0 12 dX11_lowestBits_11 rfl ?_
    refine j_bipush 14 (v := 16) dX11_lowestBits_12 rfl rfl ?_
    refine j_cmp_ne 22 17 dX11_lowestBits_14 rfl rfl (fun h14 => ?_) (fun h14 => ?_)
    · refine j_iload1 23 dX11_lowestBits_22 rfl ?_
      refine j_iret dX11_lowestBits_23 rfl ?_
      first | exact rf_e (by rw [if_pos h3]) | exact rf_e (by rw [if_neg h3, if_pos h14]) | exact rf_e (by rw [if_neg h3, if_neg h14])
    · refine j_iload1 18 dX11_lowestBits_17 rfl ?_
      refine j_i2s 19 dX11_lowestBits_18 rfl ?_
      refine j_goto 23 dX11_lowestBits_19 rfl ?_
      refine j_iret dX11_lowestBits_23 rfl ?_
      first | exact rf_e (by rw [if_pos h3]) | exact rf_e (by rw [if_neg h3, if_pos h14]) | exact rf_e (by rw [if_neg h3, if_neg h14])
  · refine j_iload1 7 dX11_lowestBits_6 rfl ?_
    refine j_i2b 8 dX11_lowestBits_7 rfl ?_
    refine j_goto 23 dX11_lowestBits_8 rfl ?_
    refine j_iret dX11_lowestBits_23 rfl ?_
    first | exact rf_e (by rw [if_pos h3]) | exact rf_e (by rw [if_neg h3, if_pos h14]) | exact rf_e (by rw [if_neg h3, if_neg h14])
def iOH (w v : Int32) : Prop := if w = 0 ∨ w = 2 then 0 ≤ v ∧ v ≤ 15 else if w = 1 then 0 ≤ v ∧ v ≤ 99 else if w = 3 then 0 ≤ v ∧ v ≤ 9999 else False
set_option maxRecDepth 100000 in
theorem c_bitCount (m : Mem) (x : Int32) : JM l g 0 mJ6_bitCount_0f7a4 [.int x] m (RF (some (.int (bcF x))) m) := by
  refine JM_of (ls := [some (.int x)]) pn_J6 rfl rfl ?_
  refine j_iload0 1 dJ6_bitCount_0f7a4_0 rfl ?_
  refine j_iload0 2 dJ6_bitCount_0f7a4_1 rfl ?_
  refine j_iconst 3 (v := 1) dJ6_bitCount_0f7a4_2 rfl rfl ?_
  refine j_iushr 4 dJ6_bitCount_0f7a4_3 rfl ?_
  refine j_ldcw 7 dJ6_bitCount_0f7a4_4 rfl kc_J6_265 ?_
  refine j_iand 8 dJ6_bitCount_0f7a4_7 rfl ?_
  refine j_isub 9 dJ6_bitCount_0f7a4_8 rfl ?_
  refine j_istore0 10 dJ6_bitCount_0f7a4_9 rfl rfl ?_
  refine j_iload0 11 dJ6_bitCount_0f7a4_10 rfl ?_
  refine j_ldcw 14 dJ6_bitCount_0f7a4_11 rfl kc_J6_266 ?_
  refine j_iand 15 dJ6_bitCount_0f7a4_14 rfl ?_
  refine j_iload0 16 dJ6_bitCount_0f7a4_15 rfl ?_
  refine j_iconst 17 (v := 2) dJ6_bitCount_0f7a4_16 rfl rfl ?_
  refine j_iushr 18 dJ6_bitCount_0f7a4_17 rfl ?_
  refine j_ldcw 21 dJ6_bitCount_0f7a4_18 rfl kc_J6_266 ?_
  refine j_iand 22 dJ6_bitCount_0f7a4_21 rfl ?_
  refine j_iadd 23 dJ6_bitCount_0f7a4_22 rfl ?_
  refine j_istore0 24 dJ6_bitCount_0f7a4_23 rfl rfl ?_
  refine j_iload0 25 dJ6_bitCount_0f7a4_24 rfl ?_
  refine j_iload0 26 dJ6_bitCount_0f7a4_25 rfl ?_
  refine j_iconst 27 (v := 4) dJ6_bitCount_0f7a4_26 rfl rfl ?_
  refine j_iushr 28 dJ6_bitCount_0f7a4_27 rfl ?_
  refine j_iadd 29 dJ6_bitCount_0f7a4_28 rfl ?_
  refine j_ldcw 32 dJ6_bitCount_0f7a4_29 rfl kc_J6_267 ?_
  refine j_iand 33 dJ6_bitCount_0f7a4_32 rfl ?_
  refine j_istore0 34 dJ6_bitCount_0f7a4_33 rfl rfl ?_
  refine j_iload0 35 dJ6_bitCount_0f7a4_34 rfl ?_
  refine j_iload0 36 dJ6_bitCount_0f7a4_35 rfl ?_
  refine j_bipush 38 (v := 8) dJ6_bitCount_0f7a4_36 rfl rfl ?_
  refine j_iushr 39 dJ6_bitCount_0f7a4_38 rfl ?_
  refine j_iadd 40 dJ6_bitCount_0f7a4_39 rfl ?_
  refine j_istore0 41 dJ6_bitCount_0f7a4_40 rfl rfl ?_
  refine j_iload0 42 dJ6_bitCount_0f7a4_41 rfl ?_
  refine j_iload0 43 dJ6_bitCount_0f7a4_42 rfl ?_
  refine j_bipush 45 (v := 16) dJ6_bitCount_0f7a4_43 rfl rfl ?_
  refine j_iushr 46 dJ6_bitCount_0f7a4_45 rfl ?_
  refine j_iadd 47 dJ6_bitCount_0f7a4_46 rfl ?_
  refine j_istore0 48 dJ6_bitCount_0f7a4_47 rfl rfl ?_
  refine j_iload0 49 dJ6_bitCount_0f7a4_48 rfl ?_
  refine j_bipush 51 (v := 63) dJ6_bitCount_0f7a4_49 rfl rfl ?_
  refine j_iand 52 dJ6_bitCount_0f7a4_51 rfl ?_
  refine j_iret dJ6_bitCount_0f7a4_52 rfl ?_
  exact ⟨rfl, rfl⟩
end SM
