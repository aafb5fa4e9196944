/-! the reference: small methods. Its row d is the cell 69; field r of HEIR h stands at 40 + 6 * h + r -/
abbrev hf (d : Nat → Int32) (h r : Nat) : Int32 := d (40 + 6 * h + r)
def nb (x : Int32) (n : Nat) : Prop := ∃ j : Nat, j < n ∧ x = nI j
theorem nb_cl {x : Int32} {n : Nat} (h : nb x n) (hn : n ≤ 2 ^ 31) : x.toNatClampNeg < n ∧ x = nI x.toNatClampNeg := by
  obtain ⟨j, h1, rfl⟩ := h
  rw [nI_clamp (by omega)]
  exact ⟨h1, rfl⟩
/-- a HEIR as it may be -/
def HWr (v : Nat → Int32) : Prop := nb (v 0) 7 ∧ nb (v 1) 10 ∧ nb (v 2) 16 ∧ nb (v 3) 100 ∧ (v 3 = 0 → nb (v 4) 16) ∧ (v 3 ≠ 0 → v 4 = -1) ∧ nb (v 5) 10000
abbrev HW (d : Nat → Int32) (h : Nat) : Prop := HWr (fun r => hf d h r)
abbrev kN (d : Nat → Int32) (h : Nat) : Nat := (hf d h 0).toNatClampNeg
abbrev contF (d : Nat → Int32) (h : Nat) : Prop := hf d h 3 = 0 ∧ (hf d h 4 = hf d h 2 ∨ neF (kN d h) (hf d h 1) ≤ d (8 + (hf d h 4).toNatClampNeg))
def cntF (d : Nat → Int32) : Nat → Nat
  | 0 => 0
  | h + 1 => cntF d h + (if hf d h 3 = 0 then 1 else 0)
def sunM (d : Nat → Int32) (h : Nat) : Int32 := d (8 + (if hf d h 3 = 0 then hf d h 4 else hf d h 2).toNatClampNeg)
theorem le64 {x z : Int32} : x.toInt64 ≤ z.toInt64 ↔ x ≤ z := by
  rw [Int64.le_iff_toInt_le, Int32.le_iff_toInt_le, Int32.toInt_toInt64, Int32.toInt_toInt64]
theorem max1 (a : Int32) : (if a < 1 then 1 else a) = imax 1 a := by
  unfold imax
  by_cases h : a < 1
  · rw [if_pos h, if_neg (Int32.lt_asymm h)]
  · rw [if_neg h]
    by_cases h2 : 1 < a
    · rw [if_pos h2]
    · rw [if_neg h2]
      exact Int32.le_antisymm (Int32.not_lt.mp h2) (Int32.not_lt.mp h)
theorem gen4 {s : Int32} (h : nb s 10) : heldF (2 * s - 3) 0 99 = imax 0 (s * 2 - 3) := by
  obtain ⟨j, hj, rfl⟩ := h
  rcases (show j = 0 ∨ j = 1 ∨ j = 2 ∨ j = 3 ∨ j = 4 ∨ j = 5 ∨ j = 6 ∨ j = 7 ∨ j = 8 ∨ j = 9 by omega) with rfl | rfl | rfl | rfl | rfl | rfl | rfl | rfl | rfl | rfl <;> decide +kernel
theorem irm_nI {a b : Nat} (ha : a < 2 ^ 31) (h0 : 0 < b) (hb : b < 2 ^ 31) : irm (nI a) (nI b) = nI (a % b) := pk_rem ha h0 hb
theorem odd6 {dy mm : Int32} (h : nb dy 20000) : (if irm dy 2 = 1 then mm else 0) = (if irm dy 2 = 0 then 0 else mm) := by
  obtain ⟨j, hj, rfl⟩ := h
  rw [show irm (nI j) 2 = nI (j % 2) from irm_nI (b := 2) (by omega) (by decide) (by decide)]
  rcases (show j % 2 = 0 ∨ j % 2 = 1 by omega) with e | e <;> rw [e] <;> rfl
section M1
variable {l : Launch} {g : Gv}
set_option maxRecDepth 100000 in
theorem c_in (m : Mem) (x a b : Int32) : JM l g 0 mX12_in [.long (x.toInt64), .long (a.toInt64), .long (b.toInt64)] m (RF (some (.int (bz (a ≤ x ∧ x ≤ b)))) m) := by
  refine JM_of (ls := [some (.long (x.toInt64)), none, some (.long (a.toInt64)), none, some (.long (b.toInt64)), none]) pn_X12 rfl rfl ?_
  refine j_lload0 1 dX12_in_0 rfl ?_
  refine j_lload2 2 dX12_in_1 rfl ?_
  refine j_lcmp 3 dX12_in_2 rfl ?_
  refine j_if_lt 17 6 dX12_in_3 rfl rfl (fun h3 => ?_) (fun h3 => ?_)
  · refine j_iconst 18 (v := 0) dX12_in_17 rfl rfl ?_
    refine j_zret (by first | exact bz_01 | exact Or.inl rfl | exact Or.inr rfl | assumption) dX12_in_18 rfl ?_
    first | exact rf_f (fun q => absurd (le64.mpr q.1) (Int64.not_le.mpr ((lg_cmp_lt _ _).mp h3))) | exact rf_f (fun q => absurd (le64.mpr q.2) (Int64.not_le.mpr ((lg_cmp_gt _ _).mp h10))) | exact rf_t ⟨le64.mp (Int64.not_lt.mp (fun q => h3 ((lg_cmp_lt _ _).mpr q))), le64.mp (Int64.not_lt.mp (fun q => h10 ((lg_cmp_gt _ _).mpr q)))⟩
  · refine j_lload0 7 dX12_in_6 rfl ?_
    refine j_lload4 9 dX12_in_7 rfl ?_
    refine j_lcmp 10 dX12_in_9 rfl ?_
    refine j_if_gt 17 13 dX12_in_10 rfl rfl (fun h10 => ?_) (fun h10 => ?_)
    · refine j_iconst 18 (v := 0) dX12_in_17 rfl rfl ?_
      refine j_zret (by first | exact bz_01 | exact Or.inl rfl | exact Or.inr rfl | assumption) dX12_in_18 rfl ?_
      first | exact rf_f (fun q => absurd (le64.mpr q.1) (Int64.not_le.mpr ((lg_cmp_lt _ _).mp h3))) | exact rf_f (fun q => absurd (le64.mpr q.2) (Int64.not_le.mpr ((lg_cmp_gt _ _).mp h10))) | exact rf_t ⟨le64.mp (Int64.not_lt.mp (fun q => h3 ((lg_cmp_lt _ _).mpr q))), le64.mp (Int64.not_lt.mp (fun q => h10 ((lg_cmp_gt _ _).mpr q)))⟩
    · refine j_iconst 14 (v := 1) dX12_in_13 rfl rfl ?_
      refine j_goto 18 dX12_in_14 rfl ?_
      refine j_zret (by first | exact bz_01 | exact Or.inl rfl | exact Or.inr rfl | assumption) dX12_in_18 rfl ?_
      first | exact rf_f (fun q => absurd (le64.mpr q.1) (Int64.not_le.mpr ((lg_cmp_lt _ _).mp h3))) | exact rf_f (fun q => absurd (le64.mpr q.2) (Int64.not_le.mpr ((lg_cmp_gt _ _).mp h10))) | exact rf_t ⟨le64.mp (Int64.not_lt.mp (fun q => h3 ((lg_cmp_lt _ _).mpr q))), le64.mp (Int64.not_lt.mp (fun q => h10 ((lg_cmp_gt _ _).mpr q)))⟩
set_option maxRecDepth 100000 in
theorem c_misSill (m : Mem) (v : Int32) : JM l g 1 mX12_isSill [.int v] m (RF (some (.int (bz (0 ≤ v ∧ v ≤ 15)))) m) := by
  refine JM_of (ls := [some (.int v)]) pn_X12 rfl rfl ?_
  refine j_iload0 1 dX12_isSill_0 rfl ?_
  refine j_i2l 2 dX12_isSill_1 rfl ?_
  refine j_lconst 3 (v := 0) dX12_isSill_2 rfl rfl ?_
  refine j_ldc2 6 dX12_isSill_3 rfl kl_X12_51 ?_
  refine j_st3f 9 dX12_isSill_6 rfl rfl cl_X12_47 rfl (c_in m v 0 15) ?_
  refine j_zret (by first | exact bz_01 | exact Or.inl rfl | exact Or.inr rfl | assumption) dX12_isSill_9 rfl ?_
  exact ⟨rfl, rfl⟩
set_option maxRecDepth 100000 in
theorem c_misSheet (m : Mem) (v : Int32) : JM l g 1 mX12_isSheet [.int v] m (RF (some (.int (bz (0 ≤ v ∧ v ≤ 3)))) m) := by
  refine JM_of (ls := [some (.int v)]) pn_X12 rfl rfl ?_
  refine j_iload0 1 dX12_isSheet_0 rfl ?_
  refine j_i2l 2 dX12_isSheet_1 rfl ?_
  refine j_lconst 3 (v := 0) dX12_isSheet_2 rfl rfl ?_
  refine j_ldc2 6 dX12_isSheet_3 rfl kl_X12_182 ?_
  refine j_st3f 9 dX12_isSheet_6 rfl rfl cl_X12_47 rfl (c_in m v 0 3) ?_
  refine j_zret (by first | exact bz_01 | exact Or.inl rfl | exact Or.inr rfl | assumption) dX12_isSheet_9 rfl ?_
  exact ⟨rfl, rfl⟩
set_option maxRecDepth 100000 in
theorem c_misHeir (m : Mem) (v : Int32) : JM l g 1 mX12_isHeir [rf g 68, .int v] m (RF (some (.int (bz (0 ≤ v ∧ v ≤ m 69 0 - 1)))) m) := by
  refine JM_of (ls := [some (rf g 68), some (.int v)]) pn_X12 rfl rfl ?_
  refine j_iload1 1 dX12_isHeir_0 rfl ?_
  refine j_i2l 2 dX12_isHeir_1 rfl ?_
  refine j_lconst 3 (v := 0) dX12_isHeir_2 rfl rfl ?_
  refine j_aload0 4 dX12_isHeir_3 rfl ?_
  refine j_getR 7 dX12_isHeir_4 rfl fl_X12_7 rfl rfl ?_
  refine j_iconst 8 (v := 0) dX12_isHeir_7 rfl rfl ?_
  refine j_iald 9 0 rfl (by first | assumption | decide | omega) dX12_isHeir_8 rfl rfl ?_
  refine j_iconst 10 (v := 1) dX12_isHeir_9 rfl rfl ?_
  refine j_isub 11 dX12_isHeir_10 rfl ?_
  refine j_i2l 12 dX12_isHeir_11 rfl ?_
  refine j_st3f 15 dX12_isHeir_12 rfl rfl cl_X12_47 rfl (c_in m v 0 _) ?_
  refine j_zret (by first | exact bz_01 | exact Or.inl rfl | exact Or.inr rfl | assumption) dX12_isHeir_15 rfl ?_
  exact ⟨rfl, rfl⟩
set_option maxRecDepth 100000 in
theorem c_finds1 (m : Mem) : JM l g 0 mX12_finds [rf g 68, .int 1] m (RF (some (.int (-1000000001))) (up2 m 72 1 (m 72 1 + 1))) := by
  refine JM_of (ls := [some (rf g 68), some (.int 1)]) pn_X12 rfl rfl ?_
  refine j_aload0 1 dX12_finds_0 rfl ?_
  refine j_getR 4 dX12_finds_1 rfl fl_X12_19 rfl rfl ?_
  refine j_iload1 5 dX12_finds_4 rfl ?_
  refine j_dup2 6 dX12_finds_5 rfl rfl rfl ?_
  refine j_iald 7 1 rfl (by first | assumption | decide | omega) dX12_finds_6 rfl rfl ?_
  refine j_iconst 8 (v := 1) dX12_finds_7 rfl rfl ?_
  refine j_iadd 9 dX12_finds_8 rfl ?_
  refine j_iast 10 1 rfl (by first | assumption | decide | omega) dX12_finds_9 rfl rfl ?_
  refine j_ldc 12 dX12_finds_10 rfl kc_X12_46 ?_
  refine j_iload1 13 dX12_finds_12 rfl ?_
  refine j_isub 14 dX12_finds_13 rfl ?_
  refine j_iret dX12_finds_14 rfl ?_
  exact ⟨by decide, rfl⟩
set_option maxRecDepth 100000 in
theorem c_finds2 (m : Mem) : JM l g 0 mX12_finds [rf g 68, .int 2] m (RF (some (.int (-1000000002))) (up2 m 72 2 (m 72 2 + 1))) := by
  refine JM_of (ls := [some (rf g 68), some (.int 2)]) pn_X12 rfl rfl ?_
  refine j_aload0 1 dX12_finds_0 rfl ?_
  refine j_getR 4 dX12_finds_1 rfl fl_X12_19 rfl rfl ?_
  refine j_iload1 5 dX12_finds_4 rfl ?_
  refine j_dup2 6 dX12_finds_5 rfl rfl rfl ?_
  refine j_iald 7 2 rfl (by first | assumption | decide | omega) dX12_finds_6 rfl rfl ?_
  refine j_iconst 8 (v := 1) dX12_finds_7 rfl rfl ?_
  refine j_iadd 9 dX12_finds_8 rfl ?_
  refine j_iast 10 2 rfl (by first | assumption | decide | omega) dX12_finds_9 rfl rfl ?_
  refine j_ldc 12 dX12_finds_10 rfl kc_X12_46 ?_
  refine j_iload1 13 dX12_finds_12 rfl ?_
  refine j_isub 14 dX12_finds_13 rfl ?_
  refine j_iret dX12_finds_14 rfl ?_
  exact ⟨by decide, rfl⟩
set_option maxRecDepth 100000 in
theorem c_finds3 (m : Mem) : JM l g 0 mX12_finds [rf g 68, .int 3] m (RF (some (.int (-1000000003))) (up2 m 72 3 (m 72 3 + 1))) := by
  refine JM_of (ls := [some (rf g 68), some (.int 3)]) pn_X12 rfl rfl ?_
  refine j_aload0 1 dX12_finds_0 rfl ?_
  refine j_getR 4 dX12_finds_1 rfl fl_X12_19 rfl rfl ?_
  refine j_iload1 5 dX12_finds_4 rfl ?_
  refine j_dup2 6 dX12_finds_5 rfl rfl rfl ?_
  refine j_iald 7 3 rfl (by first | assumption | decide | omega) dX12_finds_6 rfl rfl ?_
  refine j_iconst 8 (v := 1) dX12_finds_7 rfl rfl ?_
  refine j_iadd 9 dX12_finds_8 rfl ?_
  refine j_iast 10 3 rfl (by first | assumption | decide | omega) dX12_finds_9 rfl rfl ?_
  refine j_ldc 12 dX12_finds_10 rfl kc_X12_46 ?_
  refine j_iload1 13 dX12_finds_12 rfl ?_
  refine j_isub 14 dX12_finds_13 rfl ?_
  refine j_iret dX12_finds_14 rfl ?_
  exact ⟨by decide, rfl⟩
set_option maxRecDepth 100000 in
theorem c_finds4 (m : Mem) : JM l g 0 mX12_finds [rf g 68, .int 4] m (RF (some (.int (-1000000004))) (up2 m 72 4 (m 72 4 + 1))) := by
  refine JM_of (ls := [some (rf g 68), some (.int 4)]) pn_X12 rfl rfl ?_
  refine j_aload0 1 dX12_finds_0 rfl ?_
  refine j_getR 4 dX12_finds_1 rfl fl_X12_19 rfl rfl ?_
  refine j_iload1 5 dX12_finds_4 rfl ?_
  refine j_dup2 6 dX12_finds_5 rfl rfl rfl ?_
  refine j_iald 7 4 rfl (by first | assumption | decide | omega) dX12_finds_6 rfl rfl ?_
  refine j_iconst 8 (v := 1) dX12_finds_7 rfl rfl ?_
  refine j_iadd 9 dX12_finds_8 rfl ?_
  refine j_iast 10 4 rfl (by first | assumption | decide | omega) dX12_finds_9 rfl rfl ?_
  refine j_ldc 12 dX12_finds_10 rfl kc_X12_46 ?_
  refine j_iload1 13 dX12_finds_12 rfl ?_
  refine j_isub 14 dX12_finds_13 rfl ?_
  refine j_iret dX12_finds_14 rfl ?_
  exact ⟨by decide, rfl⟩
set_option maxRecDepth 100000 in
theorem c_finds5 (m : Mem) : JM l g 0 mX12_finds [rf g 68, .int 5] m (RF (some (.int (-1000000005))) (up2 m 72 5 (m 72 5 + 1))) := by
  refine JM_of (ls := [some (rf g 68), some (.int 5)]) pn_X12 rfl rfl ?_
  refine j_aload0 1 dX12_finds_0 rfl ?_
  refine j_getR 4 dX12_finds_1 rfl fl_X12_19 rfl rfl ?_
  refine j_iload1 5 dX12_finds_4 rfl ?_
  refine j_dup2 6 dX12_finds_5 rfl rfl rfl ?_
  refine j_iald 7 5 rfl (by first | assumption | decide | omega) dX12_finds_6 rfl rfl ?_
  refine j_iconst 8 (v := 1) dX12_finds_7 rfl rfl ?_
  refine j_iadd 9 dX12_finds_8 rfl ?_
  refine j_iast 10 5 rfl (by first | assumption | decide | omega) dX12_finds_9 rfl rfl ?_
  refine j_ldc 12 dX12_finds_10 rfl kc_X12_46 ?_
  refine j_iload1 13 dX12_finds_12 rfl ?_
  refine j_isub 14 dX12_finds_13 rfl ?_
  refine j_iret dX12_finds_14 rfl ?_
  exact ⟨by decide, rfl⟩
set_option maxRecDepth 100000 in
theorem c_of (m : Mem) (h w : Nat) (hh : h < 8) (hw : w < 6) : JM l g 0 mX12_of [rf g 68, .int (nI h), .int (nI w)] m (RF (some (.int (hf (m 69) h w))) m) := by
  refine JM_of (ls := [some (rf g 68), some (.int (nI h)), some (.int (nI w))]) pn_X12 rfl rfl ?_
  refine j_aload0 1 dX12_of_0 rfl ?_
  refine j_getR 4 dX12_of_1 rfl fl_X12_7 rfl rfl ?_
  refine j_bipush 6 (v := nI 40) dX12_of_4 rfl rfl ?_
  refine j_bipush 8 (v := nI 6) dX12_of_6 rfl rfl ?_
  refine j_iload1 9 dX12_of_8 rfl ?_
  refine j_imulN 10 dX12_of_9 rfl ?_
  refine j_iaddN 11 dX12_of_10 rfl ?_
  refine j_iload2 12 dX12_of_11 rfl ?_
  refine j_iaddN 13 dX12_of_12 rfl ?_
  refine j_iald 14 _ rfl (show 40 + 6 * h + w < 260 by omega) dX12_of_13 rfl rfl ?_
  refine j_iret dX12_of_14 rfl ?_
  exact ⟨rfl, rfl⟩
set_option maxRecDepth 100000 in
theorem c_sets (m : Mem) (h w : Nat) (v : Int32) (hh : h < 8) (hw : w < 6) : JM l g 0 mX12_sets [rf g 68, .int (nI h), .int (nI w), .int v] m (RF none (up2 m 69 (40 + 6 * h + w) v)) := by
  refine JM_of (ls := [some (rf g 68), some (.int (nI h)), some (.int (nI w)), some (.int v)]) pn_X12 rfl rfl ?_
  refine j_aload0 1 dX12_sets_0 rfl ?_
  refine j_getR 4 dX12_sets_1 rfl fl_X12_7 rfl rfl ?_
  refine j_bipush 6 (v := nI 40) dX12_sets_4 rfl rfl ?_
  refine j_bipush 8 (v := nI 6) dX12_sets_6 rfl rfl ?_
  refine j_iload1 9 dX12_sets_8 rfl ?_
  refine j_imulN 10 dX12_sets_9 rfl ?_
  refine j_iaddN 11 dX12_sets_10 rfl ?_
  refine j_iload2 12 dX12_sets_11 rfl ?_
  refine j_iaddN 13 dX12_sets_12 rfl ?_
  refine j_iload3 14 dX12_sets_13 rfl ?_
  refine j_iast 15 _ rfl (show 40 + 6 * h + w < 260 by omega) dX12_sets_14 rfl rfl ?_
  refine j_vret dX12_sets_15 rfl ?_
  exact ⟨rfl, rfl⟩
set_option maxRecDepth 100000 in
theorem c_where (m : Mem) (h w : Nat) : JM l g 0 mX12_where [.int (nI h), .int (nI w)] m (RF (some (.int (nI (40 + 6 * h + w)))) m) := by
  refine JM_of (ls := [some (.int (nI h)), some (.int (nI w))]) pn_X12 rfl rfl ?_
  refine j_bipush 2 (v := nI 40) dX12_where_0 rfl rfl ?_
  refine j_bipush 4 (v := nI 6) dX12_where_2 rfl rfl ?_
  refine j_iload0 5 dX12_where_4 rfl ?_
  refine j_imulN 6 dX12_where_5 rfl ?_
  refine j_iaddN 7 dX12_where_6 rfl ?_
  refine j_iload1 8 dX12_where_7 rfl ?_
  refine j_iaddN 9 dX12_where_8 rfl ?_
  refine j_iret dX12_where_9 rfl ?_
  exact ⟨rfl, rfl⟩
set_option maxRecDepth 100000 in
theorem c_above (m : Mem) (v : Int32) : JM l g 0 mX12_above [.int v] m (RF (some (.int (if v ≤ 3 then 0 else v - 3))) m) := by
  refine JM_of (ls := [some (.int v)]) pn_X12 rfl rfl ?_
  refine j_iload0 1 dX12_above_0 rfl ?_
  refine j_iconst 2 (v := 3) dX12_above_1 rfl rfl ?_
  refine j_cmp_le 11 5 dX12_above_2 rfl rfl (fun h2 => ?_) (fun h2 => ?_)
  · refine j_iconst 12 (v := 0) dX12_above_11 rfl rfl ?_
    refine j_iret dX12_above_12 rfl ?_
    first | exact rf_e (if_pos h2).symm | exact rf_e (if_neg h2).symm
  · refine j_iload0 6 dX12_above_5 rfl ?_
    refine j_iconst 7 (v := 3) dX12_above_6 rfl rfl ?_
    refine j_isub 8 dX12_above_7 rfl ?_
    refine j_goto 12 dX12_above_8 rfl ?_
    refine j_iret dX12_above_12 rfl ?_
    first | exact rf_e (if_pos h2).symm | exact rf_e (if_neg h2).symm
set_option maxRecDepth 100000 in
theorem c_becomes (m : Mem) (w : Nat) (v : Int32) (hw : w < 260) : JM l g 0 mX12_becomes [rf g 68, .int (nI w), .int v] m (RF (some (.int (m 69 w))) (up2 m 69 w v)) := by
  refine JM_of (ls := [some (rf g 68), some (.int (nI w)), some (.int v), none]) pn_X12 rfl rfl ?_
  refine j_aload0 1 dX12_becomes_0 rfl ?_
  refine j_getR 4 dX12_becomes_1 rfl fl_X12_7 rfl rfl ?_
  refine j_iload1 5 dX12_becomes_4 rfl ?_
  refine j_iald 6 _ rfl hw dX12_becomes_5 rfl rfl ?_
  refine j_istore3 7 dX12_becomes_6 rfl rfl rfl ?_
  refine j_aload0 8 dX12_becomes_7 rfl ?_
  refine j_getR 11 dX12_becomes_8 rfl fl_X12_7 rfl rfl ?_
  refine j_iload1 12 dX12_becomes_11 rfl ?_
  refine j_iload2 13 dX12_becomes_12 rfl ?_
  refine j_iast 14 _ rfl hw dX12_becomes_13 rfl rfl ?_
  refine j_iload3 15 dX12_becomes_14 rfl ?_
  refine j_iret dX12_becomes_15 rfl ?_
  exact ⟨rfl, rfl⟩
set_option maxRecDepth 100000 in
theorem c_misDust (m : Mem) (h : Nat) (hh : h < 8) : JM l g 1 mX12_isDust [rf g 68, .int (nI h)] m (RF (some (.int (bz (hf (m 69) h 3 = 0)))) m) := by
  refine JM_of (ls := [some (rf g 68), some (.int (nI h))]) pn_X12 rfl rfl ?_
  refine j_aload0 1 dX12_isDust_0 rfl ?_
  refine j_iload1 2 dX12_isDust_1 rfl ?_
  refine j_iconst 3 (v := 3) dX12_isDust_2 rfl rfl ?_
  refine j_vi2f 6 dX12_isDust_3 rfl rfl cl_X12_146 rfl rfl (c_of m h 3 hh (by decide)) ?_
  refine j_if_ne 13 9 dX12_isDust_6 rfl rfl (fun h6 => ?_) (fun h6 => ?_)
  · refine j_iconst 14 (v := 0) dX12_isDust_13 rfl rfl ?_
    refine j_zret (by first | exact bz_01 | exact Or.inl rfl | exact Or.inr rfl | assumption) dX12_isDust_14 rfl ?_
    first | exact rf_t (by assumption) | exact rf_f (by assumption)
  · refine j_iconst 10 (v := 1) dX12_isDust_9 rfl rfl ?_
    refine j_goto 14 dX12_isDust_10 rfl ?_
    refine j_zret (by first | exact bz_01 | exact Or.inl rfl | exact Or.inr rfl | assumption) dX12_isDust_14 rfl ?_
    first | exact rf_t (by assumption) | exact rf_f (by assumption)
set_option maxRecDepth 100000 in
theorem c_mdrifts (m : Mem) (h : Nat) (x : Int32) (hh : h < 8) (hk0 : nb (hf (m 69) h 0) 7) : JM l g 1 mX12_drifts [rf g 68, .int (nI h), .int x] m (RF (some (.int (drF (kN (m 69) h) x (hf (m 69) h 1) (m 69 1)))) m) := by
  refine JM_of (ls := [some (rf g 68), some (.int (nI h)), some (.int x), none]) pn_X12 rfl rfl ?_
  obtain ⟨k, hk, ek⟩ := hk0
  have ek2 : kN (m 69) h = k := by show (hf (m 69) h 0).toNatClampNeg = k; rw [ek, nI_clamp (by omega)]
  rw [ek2]
  have K : ∀ au, au = (if irm (m 69 1) 7 = 0 then 0 else x) → J l g 1 mX12_drifts 18 [some (rf g 68), some (.int (nI h)), some (.int x), some (.int au)] [] m (RF (some (.int (drF k x (hf (m 69) h 1) (m 69 1)))) m) := by
    intro au hau
    refine j_aload0 19 dX12_drifts_18 rfl ?_
    refine j_iload1 20 dX12_drifts_19 rfl ?_
    refine j_iconst 21 (v := 0) dX12_drifts_20 rfl rfl ?_
    refine j_vi2f 24 dX12_drifts_21 rfl rfl cl_X12_146 rfl rfl (c_of m h 0 hh (by decide)) ?_
    refine j_top ek ?_
    rcases (show k = 0 ∨ k = 1 ∨ k = 2 ∨ k = 3 ∨ k = 4 ∨ k = 5 ∨ k = 6 by omega) with rfl | rfl | rfl | rfl | rfl | rfl | rfl
    · refine j_tabOut 113 dX12_drifts_24 (by decide) rfl ?_
      refine j_iload2 114 dX12_drifts_113 rfl ?_
      refine j_iret dX12_drifts_114 rfl ?_
      exact ⟨rfl, rfl⟩
    · refine j_tabIn 64 dX12_drifts_24 (by decide) (by decide) rfl rfl ?_
      refine j_iload2 65 dX12_drifts_64 rfl ?_
      refine j_iconst 66 (v := 2) dX12_drifts_65 rfl rfl ?_
      refine j_idiv 67 dX12_drifts_66 rfl (by decide) ?_
      refine j_iret dX12_drifts_67 rfl ?_
      exact ⟨rfl, rfl⟩
    · refine j_tabIn 68 dX12_drifts_24 (by decide) (by decide) rfl rfl ?_
      refine j_iload2 69 dX12_drifts_68 rfl ?_
      refine j_iconst 70 (v := 1) dX12_drifts_69 rfl rfl ?_
      refine j_iadd 71 dX12_drifts_70 rfl ?_
      refine j_iret dX12_drifts_71 rfl ?_
      exact ⟨rfl, rfl⟩
    · refine j_tabIn 72 dX12_drifts_24 (by decide) (by decide) rfl rfl ?_
      refine j_iload3 73 dX12_drifts_72 rfl ?_
      refine j_iret dX12_drifts_73 rfl ?_
      exact rf_e hau
    · refine j_tabIn 74 dX12_drifts_24 (by decide) (by decide) rfl rfl ?_
      refine j_iconst 75 (v := 0) dX12_drifts_74 rfl rfl ?_
      refine j_iret dX12_drifts_75 rfl ?_
      exact ⟨rfl, rfl⟩
    · refine j_tabIn 76 dX12_drifts_24 (by decide) (by decide) rfl rfl ?_
      refine j_iload2 77 dX12_drifts_76 rfl ?_
      refine j_iconst 78 (v := 1) dX12_drifts_77 rfl rfl ?_
      refine j_iadd 79 dX12_drifts_78 rfl ?_
      refine j_aload0 80 dX12_drifts_79 rfl ?_
      refine j_getR 83 dX12_drifts_80 rfl fl_X12_7 rfl rfl ?_
      refine j_iconst 84 (v := 1) dX12_drifts_83 rfl rfl ?_
      refine j_iald 85 1 rfl (by first | assumption | decide | omega) dX12_drifts_84 rfl rfl ?_
      refine j_iconst 86 (v := 5) dX12_drifts_85 rfl rfl ?_
      refine j_irm 87 dX12_drifts_86 rfl (by decide) ?_
      refine j_if_ne 99 90 dX12_drifts_87 rfl rfl (fun h87 => ?_) (fun h87 => ?_)
      · refine j_iconst 100 (v := 0) dX12_drifts_99 rfl rfl ?_
        refine j_iadd 101 dX12_drifts_100 rfl ?_
        refine j_iret dX12_drifts_101 rfl ?_
        first | exact rf_e (by show x + 1 + _ = x + 1 + (if irm (m 69 1) 5 = 0 then hf (m 69) h 1 else 0); rw [if_pos h87]) | exact rf_e (by show x + 1 + _ = x + 1 + (if irm (m 69 1) 5 = 0 then hf (m 69) h 1 else 0); rw [if_neg h87])
      · refine j_aload0 91 dX12_drifts_90 rfl ?_
        refine j_iload1 92 dX12_drifts_91 rfl ?_
        refine j_iconst 93 (v := 1) dX12_drifts_92 rfl rfl ?_
        refine j_vi2f 96 dX12_drifts_93 rfl rfl cl_X12_146 rfl rfl (c_of m h 1 hh (by decide)) ?_
        refine j_goto 100 dX12_drifts_96 rfl ?_
        refine j_iadd 101 dX12_drifts_100 rfl ?_
        refine j_iret dX12_drifts_101 rfl ?_
        first | exact rf_e (by show x + 1 + _ = x + 1 + (if irm (m 69 1) 5 = 0 then hf (m 69) h 1 else 0); rw [if_pos h87]) | exact rf_e (by show x + 1 + _ = x + 1 + (if irm (m 69 1) 5 = 0 then hf (m 69) h 1 else 0); rw [if_neg h87])
    · refine j_tabIn 102 dX12_drifts_24 (by decide) (by decide) rfl rfl ?_
      refine j_iload3 103 dX12_drifts_102 rfl ?_
      refine j_iconst 104 (v := 1) dX12_drifts_103 rfl rfl ?_
      refine j_cmp_ge 111 107 dX12_drifts_104 rfl rfl (fun h104 => ?_) (fun h104 => ?_)
      · refine j_iload3 112 dX12_drifts_111 rfl ?_
        refine j_iret dX12_drifts_112 rfl ?_
        first | exact rf_e (by show _ = imax 1 _; rw [← hau, ← max1, if_pos (Int32.not_le.mp h104)]) | exact rf_e (by show _ = imax 1 _; rw [← hau, ← max1, if_neg (Int32.not_lt.mpr h104)])
      · refine j_iconst 108 (v := 1) dX12_drifts_107 rfl rfl ?_
        refine j_goto 112 dX12_drifts_108 rfl ?_
        refine j_iret dX12_drifts_112 rfl ?_
        first | exact rf_e (by show _ = imax 1 _; rw [← hau, ← max1, if_pos (Int32.not_le.mp h104)]) | exact rf_e (by show _ = imax 1 _; rw [← hau, ← max1, if_neg (Int32.not_lt.mpr h104)])
  refine j_aload0 1 dX12_drifts_0 rfl ?_
  refine j_getR 4 dX12_drifts_1 rfl fl_X12_7 rfl rfl ?_
  refine j_iconst 5 (v := 1) dX12_drifts_4 rfl rfl ?_
  refine j_iald 6 1 rfl (by first | assumption | decide | omega) dX12_drifts_5 rfl rfl ?_
  refine j_bipush 8 (v := 7) dX12_drifts_6 rfl rfl ?_
  refine j_irm 9 dX12_drifts_8 rfl (by decide) ?_
  refine j_if_ne 16 12 dX12_drifts_9 rfl rfl (fun h9 => ?_) (fun h9 => ?_)
  · refine j_iload2 17 dX12_drifts_16 rfl ?_
    refine j_istore3 18 dX12_drifts_17 rfl rfl rfl ?_
    first | exact K _ (if_pos h9).symm | exact K _ (if_neg h9).symm
  · refine j_iconst 13 (v := 0) dX12_drifts_12 rfl rfl ?_
    refine j_goto 17 dX12_drifts_13 rfl ?_
    refine j_istore3 18 dX12_drifts_17 rfl rfl rfl ?_
    first | exact K _ (if_pos h9).symm | exact K _ (if_neg h9).symm
set_option maxRecDepth 100000 in
theorem c_mshines (m : Mem) (h : Nat) (s : Int32) (hh : h < 8) (hk0 : nb (hf (m 69) h 0) 7) (hs : nb s 10) (hd : nb (m 69 1) 20000) : JM l g 1 mX12_shines [rf g 68, .int (nI h), .int s] m (RF (some (.int (shF (kN (m 69) h) s (hf (m 69) h 1) (m 69 1)))) m) := by
  refine JM_of (ls := [some (rf g 68), some (.int (nI h)), some (.int s), none]) pn_X12 rfl rfl ?_
  obtain ⟨k, hk, ek⟩ := hk0
  have ek2 : kN (m 69) h = k := by show (hf (m 69) h 0).toNatClampNeg = k; rw [ek, nI_clamp (by omega)]
  rw [ek2]
  refine j_aload0 1 dX12_shines_0 rfl ?_
  refine j_iload1 2 dX12_shines_1 rfl ?_
  refine j_iconst 3 (v := 1) dX12_shines_2 rfl rfl ?_
  refine j_vi2f 6 dX12_shines_3 rfl rfl cl_X12_146 rfl rfl (c_of m h 1 hh (by decide)) ?_
  refine j_istore3 7 dX12_shines_6 rfl rfl rfl ?_
  refine j_aload0 8 dX12_shines_7 rfl ?_
  refine j_iload1 9 dX12_shines_8 rfl ?_
  refine j_iconst 10 (v := 0) dX12_shines_9 rfl rfl ?_
  refine j_vi2f 13 dX12_shines_10 rfl rfl cl_X12_146 rfl rfl (c_of m h 0 hh (by decide)) ?_
  refine j_top ek ?_
  rcases (show k = 0 ∨ k = 1 ∨ k = 2 ∨ k = 3 ∨ k = 4 ∨ k = 5 ∨ k = 6 by omega) with rfl | rfl | rfl | rfl | rfl | rfl | rfl
  · refine j_tabOut 102 dX12_shines_13 (by decide) rfl ?_
    refine j_iload2 103 dX12_shines_102 rfl ?_
    refine j_iret dX12_shines_103 rfl ?_
    exact ⟨rfl, rfl⟩
  · refine j_tabIn 52 dX12_shines_13 (by decide) (by decide) rfl rfl ?_
    refine j_iconst 53 (v := 2) dX12_shines_52 rfl rfl ?_
    refine j_iload2 54 dX12_shines_53 rfl ?_
    refine j_imul 55 dX12_shines_54 rfl ?_
    refine j_iret dX12_shines_55 rfl ?_
    exact rf_e (Int32.mul_comm _ _)
  · refine j_tabIn 56 dX12_shines_13 (by decide) (by decide) rfl rfl ?_
    refine j_iload2 57 dX12_shines_56 rfl ?_
    refine j_iload3 58 dX12_shines_57 rfl ?_
    refine j_iconst 59 (v := 2) dX12_shines_58 rfl rfl ?_
    refine j_irm 60 dX12_shines_59 rfl (by decide) ?_
    refine j_iadd 61 dX12_shines_60 rfl ?_
    refine j_iret dX12_shines_61 rfl ?_
    exact ⟨rfl, rfl⟩
  · refine j_tabIn 62 dX12_shines_13 (by decide) (by decide) rfl rfl ?_
    refine j_bipush 64 (v := 9) dX12_shines_62 rfl rfl ?_
    refine j_iload2 65 dX12_shines_64 rfl ?_
    refine j_isub 66 dX12_shines_65 rfl ?_
    refine j_iret dX12_shines_66 rfl ?_
    exact ⟨rfl, rfl⟩
  · refine j_tabIn 67 dX12_shines_13 (by decide) (by decide) rfl rfl ?_
    refine j_iconst 68 (v := 2) dX12_shines_67 rfl rfl ?_
    refine j_iload2 69 dX12_shines_68 rfl ?_
    refine j_imul 70 dX12_shines_69 rfl ?_
    refine j_iconst 71 (v := 3) dX12_shines_70 rfl rfl ?_
    refine j_isub 72 dX12_shines_71 rfl ?_
    refine j_iconst 73 (v := 0) dX12_shines_72 rfl rfl ?_
    refine j_bipush 75 (v := 99) dX12_shines_73 rfl rfl ?_
    refine j_st3f 78 dX12_shines_75 rfl rfl cl_X12_139 rfl (c_held m _ 0 99) ?_
    refine j_iret dX12_shines_78 rfl ?_
    exact rf_e (gen4 hs)
  · refine j_tabIn 56 dX12_shines_13 (by decide) (by decide) rfl rfl ?_
    refine j_iload2 57 dX12_shines_56 rfl ?_
    refine j_iload3 58 dX12_shines_57 rfl ?_
    refine j_iconst 59 (v := 2) dX12_shines_58 rfl rfl ?_
    refine j_irm 60 dX12_shines_59 rfl (by decide) ?_
    refine j_iadd 61 dX12_shines_60 rfl ?_
    refine j_iret dX12_shines_61 rfl ?_
    exact ⟨rfl, rfl⟩
  · refine j_tabIn 79 dX12_shines_13 (by decide) (by decide) rfl rfl ?_
    refine j_bipush 81 (v := 9) dX12_shines_79 rfl rfl ?_
    refine j_iload2 82 dX12_shines_81 rfl ?_
    refine j_isub 83 dX12_shines_82 rfl ?_
    refine j_aload0 84 dX12_shines_83 rfl ?_
    refine j_getR 87 dX12_shines_84 rfl fl_X12_7 rfl rfl ?_
    refine j_iconst 88 (v := 1) dX12_shines_87 rfl rfl ?_
    refine j_iald 89 1 rfl (by first | assumption | decide | omega) dX12_shines_88 rfl rfl ?_
    refine j_iconst 90 (v := 2) dX12_shines_89 rfl rfl ?_
    refine j_irm 91 dX12_shines_90 rfl (by decide) ?_
    refine j_iconst 92 (v := 1) dX12_shines_91 rfl rfl ?_
    refine j_cmp_ne 99 95 dX12_shines_92 rfl rfl (fun h92 => ?_) (fun h92 => ?_)
    · refine j_iconst 100 (v := 0) dX12_shines_99 rfl rfl ?_
      refine j_iadd 101 dX12_shines_100 rfl ?_
      refine j_iret dX12_shines_101 rfl ?_
      first | exact rf_e (by show 9 - s + _ = 9 - s + (if irm (m 69 1) 2 = 0 then 0 else hf (m 69) h 1); rw [← odd6 hd, if_pos h92]) | exact rf_e (by show 9 - s + _ = 9 - s + (if irm (m 69 1) 2 = 0 then 0 else hf (m 69) h 1); rw [← odd6 hd, if_neg h92])
    · refine j_iload3 96 dX12_shines_95 rfl ?_
      refine j_goto 100 dX12_shines_96 rfl ?_
      refine j_iadd 101 dX12_shines_100 rfl ?_
      refine j_iret dX12_shines_101 rfl ?_
      first | exact rf_e (by show 9 - s + _ = 9 - s + (if irm (m 69 1) 2 = 0 then 0 else hf (m 69) h 1); rw [← odd6 hd, if_pos h92]) | exact rf_e (by show 9 - s + _ = 9 - s + (if irm (m 69 1) 2 = 0 then 0 else hf (m 69) h 1); rw [← odd6 hd, if_neg h92])
set_option maxRecDepth 100000 in
theorem c_mneeds (m : Mem) (h : Nat) (hh : h < 8) (hk0 : nb (hf (m 69) h 0) 7) : JM l g 1 mX12_needs [rf g 68, .int (nI h)] m (RF (some (.int (neF (kN (m 69) h) (hf (m 69) h 1)))) m) := by
  refine JM_of (ls := [some (rf g 68), some (.int (nI h))]) pn_X12 rfl rfl ?_
  obtain ⟨k, hk, ek⟩ := hk0
  have ek2 : kN (m 69) h = k := by show (hf (m 69) h 0).toNatClampNeg = k; rw [ek, nI_clamp (by omega)]
  rw [ek2]
  refine j_aload0 1 dX12_needs_0 rfl ?_
  refine j_iload1 2 dX12_needs_1 rfl ?_
  refine j_iconst 3 (v := 0) dX12_needs_2 rfl rfl ?_
  refine j_vi2f 6 dX12_needs_3 rfl rfl cl_X12_146 rfl rfl (c_of m h 0 hh (by decide)) ?_
  refine j_top ek ?_
  rcases (show k = 0 ∨ k = 1 ∨ k = 2 ∨ k = 3 ∨ k = 4 ∨ k = 5 ∨ k = 6 by omega) with rfl | rfl | rfl | rfl | rfl | rfl | rfl
  · refine j_tabOut 63 dX12_needs_6 (by decide) rfl ?_
    refine j_iconst 64 (v := 5) dX12_needs_63 rfl rfl ?_
    refine j_iret dX12_needs_64 rfl ?_
    exact ⟨rfl, rfl⟩
  · refine j_tabIn 44 dX12_needs_6 (by decide) (by decide) rfl rfl ?_
    refine j_bipush 46 (v := 8) dX12_needs_44 rfl rfl ?_
    refine j_iret dX12_needs_46 rfl ?_
    exact ⟨rfl, rfl⟩
  · refine j_tabIn 47 dX12_needs_6 (by decide) (by decide) rfl rfl ?_
    refine j_iconst 48 (v := 3) dX12_needs_47 rfl rfl ?_
    refine j_iret dX12_needs_48 rfl ?_
    exact ⟨rfl, rfl⟩
  · refine j_tabIn 49 dX12_needs_6 (by decide) (by decide) rfl rfl ?_
    refine j_iconst 50 (v := 0) dX12_needs_49 rfl rfl ?_
    refine j_iret dX12_needs_50 rfl ?_
    exact ⟨rfl, rfl⟩
  · refine j_tabIn 51 dX12_needs_6 (by decide) (by decide) rfl rfl ?_
    refine j_bipush 53 (v := 9) dX12_needs_51 rfl rfl ?_
    refine j_iret dX12_needs_53 rfl ?_
    exact ⟨rfl, rfl⟩
  · refine j_tabIn 54 dX12_needs_6 (by decide) (by decide) rfl rfl ?_
    refine j_aload0 55 dX12_needs_54 rfl ?_
    refine j_iload1 56 dX12_needs_55 rfl ?_
    refine j_iconst 57 (v := 1) dX12_needs_56 rfl rfl ?_
    refine j_vi2f 60 dX12_needs_57 rfl rfl cl_X12_146 rfl rfl (c_of m h 1 hh (by decide)) ?_
    refine j_iret dX12_needs_60 rfl ?_
    exact ⟨rfl, rfl⟩
  · refine j_tabIn 61 dX12_needs_6 (by decide) (by decide) rfl rfl ?_
    refine j_iconst 62 (v := 2) dX12_needs_61 rfl rfl ?_
    refine j_iret dX12_needs_62 rfl ?_
    exact rf_e (show (2 : Int32) = 0 + 2 by decide)
set_option maxRecDepth 100000 in
theorem c_msunOf (m : Mem) (h : Nat) (hh : h < 8) (hL : nb (hf (m 69) h 2) 16) (hA : hf (m 69) h 3 = 0 → nb (hf (m 69) h 4) 16) : JM l g 2 mX12_sunOf [rf g 68, .int (nI h)] m (RF (some (.int (sunM (m 69) h))) m) := by
  refine JM_of (ls := [some (rf g 68), some (.int (nI h))]) pn_X12 rfl rfl ?_
  refine j_aload0 1 dX12_sunOf_0 rfl ?_
  refine j_getR 4 dX12_sunOf_1 rfl fl_X12_7 rfl rfl ?_
  refine j_bipush 6 (v := nI 8) dX12_sunOf_4 rfl rfl ?_
  refine j_aload0 7 dX12_sunOf_6 rfl ?_
  refine j_iload1 8 dX12_sunOf_7 rfl ?_
  refine j_vi1f 11 dX12_sunOf_8 rfl rfl cl_X12_149 rfl rfl (c_misDust m h hh) ?_
  refine j_if_eq_bz 23 14 dX12_sunOf_11 rfl rfl (fun h11 => ?_) (fun h11 => ?_)
  · obtain ⟨j, hj, ej⟩ := hL
    refine j_aload0 24 dX12_sunOf_23 rfl ?_
    refine j_iload1 25 dX12_sunOf_24 rfl ?_
    refine j_iconst 26 (v := 2) dX12_sunOf_25 rfl rfl ?_
    refine j_vi2f 29 dX12_sunOf_26 rfl rfl cl_X12_146 rfl rfl (c_of m h 2 hh (by decide)) ?_
    try refine j_top ej ?_
    refine j_iaddN 30 dX12_sunOf_29 rfl ?_
    refine j_iald 31 _ rfl (show 8 + j < 260 by omega) dX12_sunOf_30 rfl rfl ?_
    refine j_iret dX12_sunOf_31 rfl ?_
    first | exact rf_e (by unfold sunM; rw [if_pos h11, ej, nI_clamp (by omega)]) | exact rf_e (by unfold sunM; rw [if_neg h11, ej, nI_clamp (by omega)])
  · obtain ⟨j, hj, ej⟩ := hA h11
    refine j_aload0 15 dX12_sunOf_14 rfl ?_
    refine j_iload1 16 dX12_sunOf_15 rfl ?_
    refine j_iconst 17 (v := 4) dX12_sunOf_16 rfl rfl ?_
    refine j_vi2f 20 dX12_sunOf_17 rfl rfl cl_X12_146 rfl rfl (c_of m h 4 hh (by decide)) ?_
    refine j_top ej ?_
    refine j_goto 29 dX12_sunOf_20 rfl ?_
    try refine j_top ej ?_
    refine j_iaddN 30 dX12_sunOf_29 rfl ?_
    refine j_iald 31 _ rfl (show 8 + j < 260 by omega) dX12_sunOf_30 rfl rfl ?_
    refine j_iret dX12_sunOf_31 rfl ?_
    first | exact rf_e (by unfold sunM; rw [if_pos h11, ej, nI_clamp (by omega)]) | exact rf_e (by unfold sunM; rw [if_neg h11, ej, nI_clamp (by omega)])
set_option maxRecDepth 100000 in
theorem c_misContent (m : Mem) (h : Nat) (hh : h < 8) (hw : HW (m 69) h) : JM l g 3 mX12_isContent [rf g 68, .int (nI h)] m (RF (some (.int (bz (contF (m 69) h)))) m) := by
  refine JM_of (ls := [some (rf g 68), some (.int (nI h))]) pn_X12 rfl rfl ?_
  have hw2 := hw
  obtain ⟨w0, w1, w2, w3, w4, w5, w6⟩ := hw2
  refine j_aload0 1 dX12_isContent_0 rfl ?_
  refine j_iload1 2 dX12_isContent_1 rfl ?_
  refine j_vi1f 5 dX12_isContent_2 rfl rfl cl_X12_149 rfl rfl (c_misDust m h hh) ?_
  refine j_if_eq_bz 40 8 dX12_isContent_5 rfl rfl (fun h5 => ?_) (fun h5 => ?_)
  · refine j_iconst 41 (v := 0) dX12_isContent_40 rfl rfl ?_
    refine j_zret (by first | exact bz_01 | exact Or.inl rfl | exact Or.inr rfl | assumption) dX12_isContent_41 rfl ?_
    first | exact rf_f (fun q => h5 q.1) | exact rf_t ⟨h5, Or.inl h20⟩ | exact rf_f (fun q => q.2.elim h20 (fun z => absurd (show neF (kN (m 69) h) (hf (m 69) h 1) ≤ sunM (m 69) h by unfold sunM; rw [if_pos h5]; exact z) (Int32.not_le.mpr h33))) | exact rf_t ⟨h5, Or.inr (by have := Int32.not_lt.mp h33; unfold sunM at this; rw [if_pos h5] at this; exact this)⟩
  · refine j_aload0 9 dX12_isContent_8 rfl ?_
    refine j_iload1 10 dX12_isContent_9 rfl ?_
    refine j_iconst 11 (v := 4) dX12_isContent_10 rfl rfl ?_
    refine j_vi2f 14 dX12_isContent_11 rfl rfl cl_X12_146 rfl rfl (c_of m h 4 hh (by decide)) ?_
    refine j_aload0 15 dX12_isContent_14 rfl ?_
    refine j_iload1 16 dX12_isContent_15 rfl ?_
    refine j_iconst 17 (v := 2) dX12_isContent_16 rfl rfl ?_
    refine j_vi2f 20 dX12_isContent_17 rfl rfl cl_X12_146 rfl rfl (c_of m h 2 hh (by decide)) ?_
    refine j_cmp_eq 36 23 dX12_isContent_20 rfl rfl (fun h20 => ?_) (fun h20 => ?_)
    · refine j_iconst 37 (v := 1) dX12_isContent_36 rfl rfl ?_
      refine j_goto 41 dX12_isContent_37 rfl ?_
      refine j_zret (by first | exact bz_01 | exact Or.inl rfl | exact Or.inr rfl | assumption) dX12_isContent_41 rfl ?_
      first | exact rf_f (fun q => h5 q.1) | exact rf_t ⟨h5, Or.inl h20⟩ | exact rf_f (fun q => q.2.elim h20 (fun z => absurd (show neF (kN (m 69) h) (hf (m 69) h 1) ≤ sunM (m 69) h by unfold sunM; rw [if_pos h5]; exact z) (Int32.not_le.mpr h33))) | exact rf_t ⟨h5, Or.inr (by have := Int32.not_lt.mp h33; unfold sunM at this; rw [if_pos h5] at this; exact this)⟩
    · refine j_aload0 24 dX12_isContent_23 rfl ?_
      refine j_iload1 25 dX12_isContent_24 rfl ?_
      refine j_vi1f 28 dX12_isContent_25 rfl rfl cl_X12_152 rfl rfl (c_msunOf m h hh w2 w4) ?_
      refine j_aload0 29 dX12_isContent_28 rfl ?_
      refine j_iload1 30 dX12_isContent_29 rfl ?_
      refine j_vi1f 33 dX12_isContent_30 rfl rfl cl_X12_155 rfl rfl (c_mneeds m h hh w0) ?_
      refine j_cmp_lt 40 36 dX12_isContent_33 rfl rfl (fun h33 => ?_) (fun h33 => ?_)
      · refine j_iconst 41 (v := 0) dX12_isContent_40 rfl rfl ?_
        refine j_zret (by first | exact bz_01 | exact Or.inl rfl | exact Or.inr rfl | assumption) dX12_isContent_41 rfl ?_
        first | exact rf_f (fun q => h5 q.1) | exact rf_t ⟨h5, Or.inl h20⟩ | exact rf_f (fun q => q.2.elim h20 (fun z => absurd (show neF (kN (m 69) h) (hf (m 69) h 1) ≤ sunM (m 69) h by unfold sunM; rw [if_pos h5]; exact z) (Int32.not_le.mpr h33))) | exact rf_t ⟨h5, Or.inr (by have := Int32.not_lt.mp h33; unfold sunM at this; rw [if_pos h5] at this; exact this)⟩
      · refine j_iconst 37 (v := 1) dX12_isContent_36 rfl rfl ?_
        refine j_goto 41 dX12_isContent_37 rfl ?_
        refine j_zret (by first | exact bz_01 | exact Or.inl rfl | exact Or.inr rfl | assumption) dX12_isContent_41 rfl ?_
        first | exact rf_f (fun q => h5 q.1) | exact rf_t ⟨h5, Or.inl h20⟩ | exact rf_f (fun q => q.2.elim h20 (fun z => absurd (show neF (kN (m 69) h) (hf (m 69) h 1) ≤ sunM (m 69) h by unfold sunM; rw [if_pos h5]; exact z) (Int32.not_le.mpr h33))) | exact rf_t ⟨h5, Or.inr (by have := Int32.not_lt.mp h33; unfold sunM at this; rw [if_pos h5] at this; exact this)⟩
end M1
