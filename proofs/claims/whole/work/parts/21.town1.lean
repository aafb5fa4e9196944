/-! KINDS: by number k (0 HEIR, 1 LORD, 2 BARBER, 3 AUNT, 4 GENERAL, 5 CLERK, 6 GIRL) -/
def drF (k : Nat) (come mm day : Int32) : Int32 := match k with
  | 0 => come
  | 1 => come / 2
  | 2 => come + 1
  | 3 => if irm day 7 = 0 then 0 else come
  | 4 => 0
  | 5 => come + 1 + (if irm day 5 = 0 then mm else 0)
  | _ => imax 1 (if irm day 7 = 0 then 0 else come)
def shF (k : Nat) (sun mm day : Int32) : Int32 := match k with
  | 0 => sun
  | 1 => sun * 2
  | 2 => sun + irm mm 2
  | 3 => 9 - sun
  | 4 => imax 0 (sun * 2 - 3)
  | 5 => sun + irm mm 2
  | _ => 9 - sun + (if irm day 2 = 0 then 0 else mm)
def neF (k : Nat) (mm : Int32) : Int32 := match k with
  | 0 => 5
  | 1 => 8
  | 2 => 3
  | 3 => 0
  | 4 => 9
  | 5 => mm
  | _ => 0 + 2
section KN
variable {l : Launch} {g : Gv}
set_option maxRecDepth 100000 in
theorem k_dr_X5 (m : Mem) (a : Nat) (x mm dy : Int32) : JM l g 0 mX5_driftsBy [rf g a, .int x, .int mm, .int dy] m (RF (some (.int (drF 0 x mm dy))) m) := by
  refine JM_of (ls := [some (rf g a), some (.int x), some (.int mm), some (.int dy)]) pn_X5 rfl rfl ?_
  refine j_iload1 1 dX5_driftsBy_0 rfl ?_
  refine j_iret dX5_driftsBy_1 rfl ?_
  exact ⟨rfl, rfl⟩
set_option maxRecDepth 100000 in
theorem k_dr_X7 (m : Mem) (a : Nat) (x mm dy : Int32) : JM l g 0 mX7_driftsBy [rf g a, .int x, .int mm, .int dy] m (RF (some (.int (drF 1 x mm dy))) m) := by
  refine JM_of (ls := [some (rf g a), some (.int x), some (.int mm), some (.int dy)]) pn_X7 rfl rfl ?_
  refine j_iload1 1 dX7_driftsBy_0 rfl ?_
  refine j_iconst 2 (v := 2) dX7_driftsBy_1 rfl rfl ?_
  refine j_idiv 3 dX7_driftsBy_2 rfl (by decide) ?_
  refine j_iret dX7_driftsBy_3 rfl ?_
  exact ⟨rfl, rfl⟩
set_option maxRecDepth 100000 in
theorem k_dr_X1 (m : Mem) (a : Nat) (x mm dy : Int32) : JM l g 0 mX1_driftsBy [rf g a, .int x, .int mm, .int dy] m (RF (some (.int (drF 2 x mm dy))) m) := by
  refine JM_of (ls := [some (rf g a), some (.int x), some (.int mm), some (.int dy)]) pn_X1 rfl rfl ?_
  refine j_iload1 1 dX1_driftsBy_0 rfl ?_
  refine j_iconst 2 (v := 1) dX1_driftsBy_1 rfl rfl ?_
  refine j_iadd 3 dX1_driftsBy_2 rfl ?_
  refine j_iret dX1_driftsBy_3 rfl ?_
  exact ⟨rfl, rfl⟩
set_option maxRecDepth 100000 in
theorem k_dr_X3 (m : Mem) (a : Nat) (x mm dy : Int32) : JM l g 0 mX3_driftsBy [rf g a, .int x, .int mm, .int dy] m (RF (some (.int (drF 4 x mm dy))) m) := by
  refine JM_of (ls := [some (rf g a), some (.int x), some (.int mm), some (.int dy)]) pn_X3 rfl rfl ?_
  refine j_iconst 1 (v := 0) dX3_driftsBy_0 rfl rfl ?_
  refine j_iret dX3_driftsBy_1 rfl ?_
  exact ⟨rfl, rfl⟩
set_option maxRecDepth 100000 in
theorem k_dr_X0 (m : Mem) (a : Nat) (x mm dy : Int32) : JM l g 0 mX0_driftsBy [rf g a, .int x, .int mm, .int dy] m (RF (some (.int (drF 3 x mm dy))) m) := by
  refine JM_of (ls := [some (rf g a), some (.int x), some (.int mm), some (.int dy)]) pn_X0 rfl rfl ?_
  refine j_iload3 1 dX0_driftsBy_0 rfl ?_
  refine j_bipush 3 (v := 7) dX0_driftsBy_1 rfl rfl ?_
  refine j_irm 4 dX0_driftsBy_3 rfl (by decide) ?_
  refine j_if_ne 11 7 dX0_driftsBy_4 rfl rfl (fun h4 => ?_) (fun h4 => ?_)
  · refine j_iload1 12 dX0_driftsBy_11 rfl ?_
    refine j_iret dX0_driftsBy_12 rfl ?_
    first | exact rf_e (if_pos h4).symm | exact rf_e (if_neg h4).symm
  · refine j_iconst 8 (v := 0) dX0_driftsBy_7 rfl rfl ?_
    refine j_goto 12 dX0_driftsBy_8 rfl ?_
    refine j_iret dX0_driftsBy_12 rfl ?_
    first | exact rf_e (if_pos h4).symm | exact rf_e (if_neg h4).symm
set_option maxRecDepth 100000 in
theorem k_dr_X2 (m : Mem) (x mm dy : Int32) : JM l g 1 mX2_driftsBy [rf g 7, .int x, .int mm, .int dy] m (RF (some (.int (drF 5 x mm dy))) m) := by
  refine JM_of (ls := [some (rf g 7), some (.int x), some (.int mm), some (.int dy)]) pn_X2 rfl rfl ?_
  refine j_aload0 1 dX2_driftsBy_0 rfl ?_
  refine j_iload1 2 dX2_driftsBy_1 rfl ?_
  refine j_iload2 3 dX2_driftsBy_2 rfl ?_
  refine j_iload3 4 dX2_driftsBy_3 rfl ?_
  refine j_su3f (ci := 2) 7 dX2_driftsBy_4 rfl rfl cl_X2_7 rfl rfl rfl (k_dr_X1 m 7 x mm dy) ?_
  refine j_iload3 8 dX2_driftsBy_7 rfl ?_
  refine j_iconst 9 (v := 5) dX2_driftsBy_8 rfl rfl ?_
  refine j_irm 10 dX2_driftsBy_9 rfl (by decide) ?_
  refine j_if_ne 17 13 dX2_driftsBy_10 rfl rfl (fun h10 => ?_) (fun h10 => ?_)
  · refine j_iconst 18 (v := 0) dX2_driftsBy_17 rfl rfl ?_
    refine j_iadd 19 dX2_driftsBy_18 rfl ?_
    refine j_iret dX2_driftsBy_19 rfl ?_
    first | exact rf_e (by show x + 1 + _ = x + 1 + (if irm dy 5 = 0 then mm else 0); rw [if_pos h10]) | exact rf_e (by show x + 1 + _ = x + 1 + (if irm dy 5 = 0 then mm else 0); rw [if_neg h10])
  · refine j_iload2 14 dX2_driftsBy_13 rfl ?_
    refine j_goto 18 dX2_driftsBy_14 rfl ?_
    refine j_iadd 19 dX2_driftsBy_18 rfl ?_
    refine j_iret dX2_driftsBy_19 rfl ?_
    first | exact rf_e (by show x + 1 + _ = x + 1 + (if irm dy 5 = 0 then mm else 0); rw [if_pos h10]) | exact rf_e (by show x + 1 + _ = x + 1 + (if irm dy 5 = 0 then mm else 0); rw [if_neg h10])
set_option maxRecDepth 100000 in
theorem k_dr_X4 (m : Mem) (x mm dy : Int32) : JM l g 1 mX4_driftsBy [rf g 8, .int x, .int mm, .int dy] m (RF (some (.int (drF 6 x mm dy))) m) := by
  refine JM_of (ls := [some (rf g 8), some (.int x), some (.int mm), some (.int dy)]) pn_X4 rfl rfl ?_
  refine j_iconst 1 (v := 1) dX4_driftsBy_0 rfl rfl ?_
  refine j_aload0 2 dX4_driftsBy_1 rfl ?_
  refine j_iload1 3 dX4_driftsBy_2 rfl ?_
  refine j_iload2 4 dX4_driftsBy_3 rfl ?_
  refine j_iload3 5 dX4_driftsBy_4 rfl ?_
  refine j_su3f (ci := 4) 8 dX4_driftsBy_5 rfl rfl cl_X4_7 rfl rfl rfl (k_dr_X0 m 8 x mm dy) ?_
  refine j_mmax 11 dX4_driftsBy_8 rfl rfl cl_X4_11 rfl ?_
  refine j_iret dX4_driftsBy_11 rfl ?_
  exact ⟨rfl, rfl⟩
set_option maxRecDepth 100000 in
theorem k_sh_X5 (m : Mem) (a : Nat) (x mm dy : Int32) : JM l g 0 mX5_shinesBy [rf g a, .int x, .int mm, .int dy] m (RF (some (.int (shF 0 x mm dy))) m) := by
  refine JM_of (ls := [some (rf g a), some (.int x), some (.int mm), some (.int dy)]) pn_X5 rfl rfl ?_
  refine j_iload1 1 dX5_shinesBy_0 rfl ?_
  refine j_iret dX5_shinesBy_1 rfl ?_
  exact ⟨rfl, rfl⟩
set_option maxRecDepth 100000 in
theorem k_sh_X7 (m : Mem) (a : Nat) (x mm dy : Int32) : JM l g 0 mX7_shinesBy [rf g a, .int x, .int mm, .int dy] m (RF (some (.int (shF 1 x mm dy))) m) := by
  refine JM_of (ls := [some (rf g a), some (.int x), some (.int mm), some (.int dy)]) pn_X7 rfl rfl ?_
  refine j_iload1 1 dX7_shinesBy_0 rfl ?_
  refine j_iconst 2 (v := 2) dX7_shinesBy_1 rfl rfl ?_
  refine j_imul 3 dX7_shinesBy_2 rfl ?_
  refine j_iret dX7_shinesBy_3 rfl ?_
  exact ⟨rfl, rfl⟩
set_option maxRecDepth 100000 in
theorem k_sh_X1 (m : Mem) (a : Nat) (x mm dy : Int32) : JM l g 0 mX1_shinesBy [rf g a, .int x, .int mm, .int dy] m (RF (some (.int (shF 2 x mm dy))) m) := by
  refine JM_of (ls := [some (rf g a), some (.int x), some (.int mm), some (.int dy)]) pn_X1 rfl rfl ?_
  refine j_iload1 1 dX1_shinesBy_0 rfl ?_
  refine j_iload2 2 dX1_shinesBy_1 rfl ?_
  refine j_iconst 3 (v := 2) dX1_shinesBy_2 rfl rfl ?_
  refine j_irm 4 dX1_shinesBy_3 rfl (by decide) ?_
  refine j_iadd 5 dX1_shinesBy_4 rfl ?_
  refine j_iret dX1_shinesBy_5 rfl ?_
  exact ⟨rfl, rfl⟩
set_option maxRecDepth 100000 in
theorem k_sh_X0 (m : Mem) (a : Nat) (x mm dy : Int32) : JM l g 0 mX0_shinesBy [rf g a, .int x, .int mm, .int dy] m (RF (some (.int (shF 3 x mm dy))) m) := by
  refine JM_of (ls := [some (rf g a), some (.int x), some (.int mm), some (.int dy)]) pn_X0 rfl rfl ?_
  refine j_bipush 2 (v := 9) dX0_shinesBy_0 rfl rfl ?_
  refine j_iload1 3 dX0_shinesBy_2 rfl ?_
  refine j_isub 4 dX0_shinesBy_3 rfl ?_
  refine j_iret dX0_shinesBy_4 rfl ?_
  exact ⟨rfl, rfl⟩
set_option maxRecDepth 100000 in
theorem k_sh_X3 (m : Mem) (x mm dy : Int32) : JM l g 1 mX3_shinesBy [rf g 6, .int x, .int mm, .int dy] m (RF (some (.int (shF 4 x mm dy))) m) := by
  refine JM_of (ls := [some (rf g 6), some (.int x), some (.int mm), some (.int dy)]) pn_X3 rfl rfl ?_
  refine j_iconst 1 (v := 0) dX3_shinesBy_0 rfl rfl ?_
  refine j_aload0 2 dX3_shinesBy_1 rfl ?_
  refine j_iload1 3 dX3_shinesBy_2 rfl ?_
  refine j_iload2 4 dX3_shinesBy_3 rfl ?_
  refine j_iload3 5 dX3_shinesBy_4 rfl ?_
  refine j_su3f (ci := 3) 8 dX3_shinesBy_5 rfl rfl cl_X3_7 rfl rfl rfl (k_sh_X7 m 6 x mm dy) ?_
  refine j_iconst 9 (v := 3) dX3_shinesBy_8 rfl rfl ?_
  refine j_isub 10 dX3_shinesBy_9 rfl ?_
  refine j_mmax 13 dX3_shinesBy_10 rfl rfl cl_X3_11 rfl ?_
  refine j_iret dX3_shinesBy_13 rfl ?_
  exact ⟨rfl, rfl⟩
set_option maxRecDepth 100000 in
theorem k_sh_X4 (m : Mem) (x mm dy : Int32) : JM l g 1 mX4_shinesBy [rf g 8, .int x, .int mm, .int dy] m (RF (some (.int (shF 6 x mm dy))) m) := by
  refine JM_of (ls := [some (rf g 8), some (.int x), some (.int mm), some (.int dy)]) pn_X4 rfl rfl ?_
  refine j_aload0 1 dX4_shinesBy_0 rfl ?_
  refine j_iload1 2 dX4_shinesBy_1 rfl ?_
  refine j_iload2 3 dX4_shinesBy_2 rfl ?_
  refine j_iload3 4 dX4_shinesBy_3 rfl ?_
  refine j_su3f (ci := 4) 7 dX4_shinesBy_4 rfl rfl cl_X4_17 rfl rfl rfl (k_sh_X0 m 8 x mm dy) ?_
  refine j_iload3 8 dX4_shinesBy_7 rfl ?_
  refine j_iconst 9 (v := 2) dX4_shinesBy_8 rfl rfl ?_
  refine j_irm 10 dX4_shinesBy_9 rfl (by decide) ?_
  refine j_if_ne 17 13 dX4_shinesBy_10 rfl rfl (fun h10 => ?_) (fun h10 => ?_)
  · refine j_iload2 18 dX4_shinesBy_17 rfl ?_
    refine j_iadd 19 dX4_shinesBy_18 rfl ?_
    refine j_iret dX4_shinesBy_19 rfl ?_
    first | exact rf_e (by show 9 - x + _ = 9 - x + (if irm dy 2 = 0 then 0 else mm); rw [if_pos h10]) | exact rf_e (by show 9 - x + _ = 9 - x + (if irm dy 2 = 0 then 0 else mm); rw [if_neg h10])
  · refine j_iconst 14 (v := 0) dX4_shinesBy_13 rfl rfl ?_
    refine j_goto 18 dX4_shinesBy_14 rfl ?_
    refine j_iadd 19 dX4_shinesBy_18 rfl ?_
    refine j_iret dX4_shinesBy_19 rfl ?_
    first | exact rf_e (by show 9 - x + _ = 9 - x + (if irm dy 2 = 0 then 0 else mm); rw [if_pos h10]) | exact rf_e (by show 9 - x + _ = 9 - x + (if irm dy 2 = 0 then 0 else mm); rw [if_neg h10])
set_option maxRecDepth 100000 in
theorem k_ne_X5 (m : Mem) (a : Nat) (mm : Int32) : JM l g 0 mX5_needsBy [rf g a, .int mm] m (RF (some (.int (neF 0 mm))) m) := by
  refine JM_of (ls := [some (rf g a), some (.int mm)]) pn_X5 rfl rfl ?_
  refine j_iconst 1 (v := 5) dX5_needsBy_0 rfl rfl ?_
  refine j_iret dX5_needsBy_1 rfl ?_
  exact ⟨rfl, rfl⟩
set_option maxRecDepth 100000 in
theorem k_ne_X7 (m : Mem) (a : Nat) (mm : Int32) : JM l g 0 mX7_needsBy [rf g a, .int mm] m (RF (some (.int (neF 1 mm))) m) := by
  refine JM_of (ls := [some (rf g a), some (.int mm)]) pn_X7 rfl rfl ?_
  refine j_bipush 2 (v := 8) dX7_needsBy_0 rfl rfl ?_
  refine j_iret dX7_needsBy_2 rfl ?_
  exact ⟨rfl, rfl⟩
set_option maxRecDepth 100000 in
theorem k_ne_X1 (m : Mem) (a : Nat) (mm : Int32) : JM l g 0 mX1_needsBy [rf g a, .int mm] m (RF (some (.int (neF 2 mm))) m) := by
  refine JM_of (ls := [some (rf g a), some (.int mm)]) pn_X1 rfl rfl ?_
  refine j_iconst 1 (v := 3) dX1_needsBy_0 rfl rfl ?_
  refine j_iret dX1_needsBy_1 rfl ?_
  exact ⟨rfl, rfl⟩
set_option maxRecDepth 100000 in
theorem k_ne_X0 (m : Mem) (a : Nat) (mm : Int32) : JM l g 0 mX0_needsBy [rf g a, .int mm] m (RF (some (.int (neF 3 mm))) m) := by
  refine JM_of (ls := [some (rf g a), some (.int mm)]) pn_X0 rfl rfl ?_
  refine j_iconst 1 (v := 0) dX0_needsBy_0 rfl rfl ?_
  refine j_iret dX0_needsBy_1 rfl ?_
  exact ⟨rfl, rfl⟩
set_option maxRecDepth 100000 in
theorem k_ne_X3 (m : Mem) (a : Nat) (mm : Int32) : JM l g 0 mX3_needsBy [rf g a, .int mm] m (RF (some (.int (neF 4 mm))) m) := by
  refine JM_of (ls := [some (rf g a), some (.int mm)]) pn_X3 rfl rfl ?_
  refine j_bipush 2 (v := 9) dX3_needsBy_0 rfl rfl ?_
  refine j_iret dX3_needsBy_2 rfl ?_
  exact ⟨rfl, rfl⟩
set_option maxRecDepth 100000 in
theorem k_ne_X2 (m : Mem) (a : Nat) (mm : Int32) : JM l g 0 mX2_needsBy [rf g a, .int mm] m (RF (some (.int (neF 5 mm))) m) := by
  refine JM_of (ls := [some (rf g a), some (.int mm)]) pn_X2 rfl rfl ?_
  refine j_iload1 1 dX2_needsBy_0 rfl ?_
  refine j_iret dX2_needsBy_1 rfl ?_
  exact ⟨rfl, rfl⟩
set_option maxRecDepth 100000 in
theorem k_ne_X4 (m : Mem) (mm : Int32) : JM l g 1 mX4_needsBy [rf g 8, .int mm] m (RF (some (.int (neF 6 mm))) m) := by
  refine JM_of (ls := [some (rf g 8), some (.int mm)]) pn_X4 rfl rfl ?_
  refine j_aload0 1 dX4_needsBy_0 rfl ?_
  refine j_iload1 2 dX4_needsBy_1 rfl ?_
  refine j_su1f (ci := 4) 5 dX4_needsBy_2 rfl rfl cl_X4_20 rfl rfl rfl (k_ne_X0 m 8 mm) ?_
  refine j_iconst 6 (v := 2) dX4_needsBy_5 rfl rfl ?_
  refine j_iadd 7 dX4_needsBy_6 rfl ?_
  refine j_iret dX4_needsBy_7 rfl ?_
  exact ⟨rfl, rfl⟩
set_option maxRecDepth 100000 in
theorem c_kindOf_9 (m : Mem) (h k : Nat) (hh : h < 8) (hk : k < 7) (hm : m 12 h = nI k) : JM l g 0 mX10_kindOf [rf g 9, .int (nI h)] m (RF (some (rf g (2 + k))) m) := by
  refine JM_of (ls := [some (rf g 9), some (.int (nI h)), none]) pn_X10 rfl rfl ?_
  refine j_aload0 1 dX10_kindOf_0 rfl ?_
  refine j_getR 4 dX10_kindOf_1 rfl fl_X10_18 rfl rfl ?_
  refine j_iload1 5 dX10_kindOf_4 rfl ?_
  refine j_iald 6 _ rfl (by first | assumption | decide | omega) dX10_kindOf_5 rfl rfl ?_
  refine j_top hm ?_
  refine j_istore2 7 dX10_kindOf_6 rfl rfl rfl ?_
  refine j_aload0 8 dX10_kindOf_7 rfl ?_
  refine j_getR 11 dX10_kindOf_8 rfl fl_X10_43 rfl rfl ?_
  refine j_iload2 12 dX10_kindOf_11 rfl ?_
  refine j_if_lt 28 15 dX10_kindOf_12 rfl rfl (fun h12 => absurd h12 (nI_pos (by omega))) (fun h12 => ?_)
  refine j_iload2 16 dX10_kindOf_15 rfl ?_
  refine j_aload0 17 dX10_kindOf_16 rfl ?_
  refine j_getR 20 dX10_kindOf_17 rfl fl_X10_43 rfl rfl ?_
  refine j_alen1 21 dX10_kindOf_20 rfl ?_
  refine j_cmp_ge 28 24 dX10_kindOf_21 rfl rfl (fun h21 => absurd h21 (nI_ge (a := k) (b := 7) hk (by decide))) (fun h21 => ?_)
  refine j_iload2 25 dX10_kindOf_24 rfl ?_
  refine j_goto 29 dX10_kindOf_25 rfl ?_
  refine j_aald 30 k rfl hk dX10_kindOf_29 rfl (by decide) ?_
  refine j_aret dX10_kindOf_30 rfl ?_
  exact ⟨by rw [show rs 1 k - 1 = 2 + k by rcases (show k = 0 ∨ k = 1 ∨ k = 2 ∨ k = 3 ∨ k = 4 ∨ k = 5 ∨ k = 6 by omega) with rfl | rfl | rfl | rfl | rfl | rfl | rfl <;> rfl], rfl⟩
set_option maxRecDepth 100000 in
theorem c_sunOf_9 (m : Mem) (j : Nat) (hj : j < 16) : JM l g 0 mX10_sunOf [rf g 9, .int (nI j)] m (RF (some (.int (m 10 j))) m) := by
  refine JM_of (ls := [some (rf g 9), some (.int (nI j))]) pn_X10 rfl rfl ?_
  refine j_iload1 1 dX10_sunOf_0 rfl ?_
  refine j_if_lt 19 4 dX10_sunOf_1 rfl rfl (fun h1 => absurd h1 (nI_pos (by omega))) (fun h1 => ?_)
  refine j_iload1 5 dX10_sunOf_4 rfl ?_
  refine j_bipush 7 (v := 16) dX10_sunOf_5 rfl rfl ?_
  refine j_cmp_ge 19 10 dX10_sunOf_7 rfl rfl (fun h7 => absurd h7 (nI_ge (a := j) (b := 16) hj (by decide))) (fun h7 => ?_)
  refine j_aload0 11 dX10_sunOf_10 rfl ?_
  refine j_getR 14 dX10_sunOf_11 rfl fl_X10_9 rfl rfl ?_
  refine j_iload1 15 dX10_sunOf_14 rfl ?_
  refine j_iald 16 _ rfl (by first | assumption | decide | omega) dX10_sunOf_15 rfl rfl ?_
  refine j_goto 20 dX10_sunOf_16 rfl ?_
  refine j_iret dX10_sunOf_20 rfl ?_
  exact ⟨rfl, rfl⟩
set_option maxRecDepth 100000 in
theorem c_isDust_9 (m : Mem) (h : Nat) (hh : h < 8) : JM l g 0 mX10_isDust [rf g 9, .int (nI h)] m (RF (some (.int (bz (m 15 h = 0)))) m) := by
  refine JM_of (ls := [some (rf g 9), some (.int (nI h))]) pn_X10 rfl rfl ?_
  refine j_aload0 1 dX10_isDust_0 rfl ?_
  refine j_getR 4 dX10_isDust_1 rfl fl_X10_27 rfl rfl ?_
  refine j_iload1 5 dX10_isDust_4 rfl ?_
  refine j_iald 6 _ rfl (by first | assumption | decide | omega) dX10_isDust_5 rfl rfl ?_
  refine j_if_ne 13 9 dX10_isDust_6 rfl rfl (fun h6 => ?_) (fun h6 => ?_)
  · refine j_iconst 14 (v := 0) dX10_isDust_13 rfl rfl ?_
    refine j_zret (by first | exact bz_01 | exact Or.inl rfl | exact Or.inr rfl | assumption) dX10_isDust_14 rfl ?_
    first | exact rf_t (by assumption) | exact rf_f (by assumption)
  · refine j_iconst 10 (v := 1) dX10_isDust_9 rfl rfl ?_
    refine j_goto 14 dX10_isDust_10 rfl ?_
    refine j_zret (by first | exact bz_01 | exact Or.inl rfl | exact Or.inr rfl | assumption) dX10_isDust_14 rfl ?_
    first | exact rf_t (by assumption) | exact rf_f (by assumption)
set_option maxRecDepth 100000 in
theorem c_kindOf_18 (m : Mem) (h k : Nat) (hh : h < 8) (hk : k < 7) (hm : m 21 h = nI k) : JM l g 0 mX10_kindOf [rf g 18, .int (nI h)] m (RF (some (rf g (2 + k))) m) := by
  refine JM_of (ls := [some (rf g 18), some (.int (nI h)), none]) pn_X10 rfl rfl ?_
  refine j_aload0 1 dX10_kindOf_0 rfl ?_
  refine j_getR 4 dX10_kindOf_1 rfl fl_X10_18 rfl rfl ?_
  refine j_iload1 5 dX10_kindOf_4 rfl ?_
  refine j_iald 6 _ rfl (by first | assumption | decide | omega) dX10_kindOf_5 rfl rfl ?_
  refine j_top hm ?_
  refine j_istore2 7 dX10_kindOf_6 rfl rfl rfl ?_
  refine j_aload0 8 dX10_kindOf_7 rfl ?_
  refine j_getR 11 dX10_kindOf_8 rfl fl_X10_43 rfl rfl ?_
  refine j_iload2 12 dX10_kindOf_11 rfl ?_
  refine j_if_lt 28 15 dX10_kindOf_12 rfl rfl (fun h12 => absurd h12 (nI_pos (by omega))) (fun h12 => ?_)
  refine j_iload2 16 dX10_kindOf_15 rfl ?_
  refine j_aload0 17 dX10_kindOf_16 rfl ?_
  refine j_getR 20 dX10_kindOf_17 rfl fl_X10_43 rfl rfl ?_
  refine j_alen1 21 dX10_kindOf_20 rfl ?_
  refine j_cmp_ge 28 24 dX10_kindOf_21 rfl rfl (fun h21 => absurd h21 (nI_ge (a := k) (b := 7) hk (by decide))) (fun h21 => ?_)
  refine j_iload2 25 dX10_kindOf_24 rfl ?_
  refine j_goto 29 dX10_kindOf_25 rfl ?_
  refine j_aald 30 k rfl hk dX10_kindOf_29 rfl (by decide) ?_
  refine j_aret dX10_kindOf_30 rfl ?_
  exact ⟨by rw [show rs 1 k - 1 = 2 + k by rcases (show k = 0 ∨ k = 1 ∨ k = 2 ∨ k = 3 ∨ k = 4 ∨ k = 5 ∨ k = 6 by omega) with rfl | rfl | rfl | rfl | rfl | rfl | rfl <;> rfl], rfl⟩
set_option maxRecDepth 100000 in
theorem c_sunOf_18 (m : Mem) (j : Nat) (hj : j < 16) : JM l g 0 mX10_sunOf [rf g 18, .int (nI j)] m (RF (some (.int (m 19 j))) m) := by
  refine JM_of (ls := [some (rf g 18), some (.int (nI j))]) pn_X10 rfl rfl ?_
  refine j_iload1 1 dX10_sunOf_0 rfl ?_
  refine j_if_lt 19 4 dX10_sunOf_1 rfl rfl (fun h1 => absurd h1 (nI_pos (by omega))) (fun h1 => ?_)
  refine j_iload1 5 dX10_sunOf_4 rfl ?_
  refine j_bipush 7 (v := 16) dX10_sunOf_5 rfl rfl ?_
  refine j_cmp_ge 19 10 dX10_sunOf_7 rfl rfl (fun h7 => absurd h7 (nI_ge (a := j) (b := 16) hj (by decide))) (fun h7 => ?_)
  refine j_aload0 11 dX10_sunOf_10 rfl ?_
  refine j_getR 14 dX10_sunOf_11 rfl fl_X10_9 rfl rfl ?_
  refine j_iload1 15 dX10_sunOf_14 rfl ?_
  refine j_iald 16 _ rfl (by first | assumption | decide | omega) dX10_sunOf_15 rfl rfl ?_
  refine j_goto 20 dX10_sunOf_16 rfl ?_
  refine j_iret dX10_sunOf_20 rfl ?_
  exact ⟨rfl, rfl⟩
set_option maxRecDepth 100000 in
theorem c_isDust_18 (m : Mem) (h : Nat) (hh : h < 8) : JM l g 0 mX10_isDust [rf g 18, .int (nI h)] m (RF (some (.int (bz (m 24 h = 0)))) m) := by
  refine JM_of (ls := [some (rf g 18), some (.int (nI h))]) pn_X10 rfl rfl ?_
  refine j_aload0 1 dX10_isDust_0 rfl ?_
  refine j_getR 4 dX10_isDust_1 rfl fl_X10_27 rfl rfl ?_
  refine j_iload1 5 dX10_isDust_4 rfl ?_
  refine j_iald 6 _ rfl (by first | assumption | decide | omega) dX10_isDust_5 rfl rfl ?_
  refine j_if_ne 13 9 dX10_isDust_6 rfl rfl (fun h6 => ?_) (fun h6 => ?_)
  · refine j_iconst 14 (v := 0) dX10_isDust_13 rfl rfl ?_
    refine j_zret (by first | exact bz_01 | exact Or.inl rfl | exact Or.inr rfl | assumption) dX10_isDust_14 rfl ?_
    first | exact rf_t (by assumption) | exact rf_f (by assumption)
  · refine j_iconst 10 (v := 1) dX10_isDust_9 rfl rfl ?_
    refine j_goto 14 dX10_isDust_10 rfl ?_
    refine j_zret (by first | exact bz_01 | exact Or.inl rfl | exact Or.inr rfl | assumption) dX10_isDust_14 rfl ?_
    first | exact rf_t (by assumption) | exact rf_f (by assumption)
set_option maxRecDepth 100000 in
theorem c_driftsOf_9 (m : Mem) (h k : Nat) (x : Int32) (hh : h < 8) (hk : k < 7) (hm : m 12 h = nI k) : JM l g 2 mX10_driftsOf [rf g 9, .int (nI h), .int x] m (RF (some (.int (drF k x (m 13 h) (m 9 13)))) m) := by
  refine JM_of (ls := [some (rf g 9), some (.int (nI h)), some (.int x)]) pn_X10 rfl rfl ?_
  refine j_aload0 1 dX10_driftsOf_0 rfl ?_
  refine j_iload1 2 dX10_driftsOf_1 rfl ?_
  refine j_vi1f 5 dX10_driftsOf_2 rfl rfl cl_X10_66 rfl rfl (c_kindOf_9 m h k hh hk hm) ?_
  refine j_iload2 6 dX10_driftsOf_5 rfl ?_
  refine j_aload0 7 dX10_driftsOf_6 rfl ?_
  refine j_getR 10 dX10_driftsOf_7 rfl fl_X10_21 rfl rfl ?_
  refine j_iload1 11 dX10_driftsOf_10 rfl ?_
  refine j_iald 12 _ rfl (by first | assumption | decide | omega) dX10_driftsOf_11 rfl rfl ?_
  refine j_aload0 13 dX10_driftsOf_12 rfl ?_
  refine j_getI 16 dX10_driftsOf_13 rfl fl_X10_59 rfl rfl ?_
  rcases (show k = 0 ∨ k = 1 ∨ k = 2 ∨ k = 3 ∨ k = 4 ∨ k = 5 ∨ k = 6 by omega) with rfl | rfl | rfl | rfl | rfl | rfl | rfl
  · refine j_dy3f 19 dX10_driftsOf_16 rfl rfl cu_X10_70_X5 rfl rfl (k_dr_X5 m 2 _ _ _) ?_
    refine j_iret dX10_driftsOf_19 rfl ?_
    exact ⟨rfl, rfl⟩
  · refine j_dy3f 19 dX10_driftsOf_16 rfl rfl cu_X10_70_X7 rfl rfl (k_dr_X7 m 3 _ _ _) ?_
    refine j_iret dX10_driftsOf_19 rfl ?_
    exact ⟨rfl, rfl⟩
  · refine j_dy3f 19 dX10_driftsOf_16 rfl rfl cu_X10_70_X1 rfl rfl (k_dr_X1 m 4 _ _ _) ?_
    refine j_iret dX10_driftsOf_19 rfl ?_
    exact ⟨rfl, rfl⟩
  · refine j_dy3f 19 dX10_driftsOf_16 rfl rfl cu_X10_70_X0 rfl rfl (k_dr_X0 m 5 _ _ _) ?_
    refine j_iret dX10_driftsOf_19 rfl ?_
    exact ⟨rfl, rfl⟩
  · refine j_dy3f 19 dX10_driftsOf_16 rfl rfl cu_X10_70_X3 rfl rfl (k_dr_X3 m 6 _ _ _) ?_
    refine j_iret dX10_driftsOf_19 rfl ?_
    exact ⟨rfl, rfl⟩
  · refine j_dy3f 19 dX10_driftsOf_16 rfl rfl cu_X10_70_X2 rfl rfl (k_dr_X2 m _ _ _) ?_
    refine j_iret dX10_driftsOf_19 rfl ?_
    exact ⟨rfl, rfl⟩
  · refine j_dy3f 19 dX10_driftsOf_16 rfl rfl cu_X10_70_X4 rfl rfl (k_dr_X4 m _ _ _) ?_
    refine j_iret dX10_driftsOf_19 rfl ?_
    exact ⟨rfl, rfl⟩
set_option maxRecDepth 100000 in
theorem c_shinesOf_9 (m : Mem) (h k j : Nat) (hh : h < 8) (hk : k < 7) (hj : j < 16) (hm : m 12 h = nI k) : JM l g 2 mX10_shinesOf [rf g 9, .int (nI h), .int (nI j)] m (RF (some (.int (shF k (m 10 j) (m 13 h) (m 9 13)))) m) := by
  refine JM_of (ls := [some (rf g 9), some (.int (nI h)), some (.int (nI j))]) pn_X10 rfl rfl ?_
  refine j_aload0 1 dX10_shinesOf_0 rfl ?_
  refine j_iload1 2 dX10_shinesOf_1 rfl ?_
  refine j_vi1f 5 dX10_shinesOf_2 rfl rfl cl_X10_66 rfl rfl (c_kindOf_9 m h k hh hk hm) ?_
  refine j_aload0 6 dX10_shinesOf_5 rfl ?_
  refine j_iload2 7 dX10_shinesOf_6 rfl ?_
  refine j_vi1f 10 dX10_shinesOf_7 rfl rfl cl_X10_76 rfl rfl (c_sunOf_9 m j hj) ?_
  refine j_aload0 11 dX10_shinesOf_10 rfl ?_
  refine j_getR 14 dX10_shinesOf_11 rfl fl_X10_21 rfl rfl ?_
  refine j_iload1 15 dX10_shinesOf_14 rfl ?_
  refine j_iald 16 _ rfl (by first | assumption | decide | omega) dX10_shinesOf_15 rfl rfl ?_
  refine j_aload0 17 dX10_shinesOf_16 rfl ?_
  refine j_getI 20 dX10_shinesOf_17 rfl fl_X10_59 rfl rfl ?_
  rcases (show k = 0 ∨ k = 1 ∨ k = 2 ∨ k = 3 ∨ k = 4 ∨ k = 5 ∨ k = 6 by omega) with rfl | rfl | rfl | rfl | rfl | rfl | rfl
  · refine j_dy3f 23 dX10_shinesOf_20 rfl rfl cu_X10_80_X5 rfl rfl (k_sh_X5 m 2 _ _ _) ?_
    refine j_iret dX10_shinesOf_23 rfl ?_
    exact ⟨rfl, rfl⟩
  · refine j_dy3f 23 dX10_shinesOf_20 rfl rfl cu_X10_80_X7 rfl rfl (k_sh_X7 m 3 _ _ _) ?_
    refine j_iret dX10_shinesOf_23 rfl ?_
    exact ⟨rfl, rfl⟩
  · refine j_dy3f 23 dX10_shinesOf_20 rfl rfl cu_X10_80_X1 rfl rfl (k_sh_X1 m 4 _ _ _) ?_
    refine j_iret dX10_shinesOf_23 rfl ?_
    exact ⟨rfl, rfl⟩
  · refine j_dy3f 23 dX10_shinesOf_20 rfl rfl cu_X10_80_X0 rfl rfl (k_sh_X0 m 5 _ _ _) ?_
    refine j_iret dX10_shinesOf_23 rfl ?_
    exact ⟨rfl, rfl⟩
  · refine j_dy3f 23 dX10_shinesOf_20 rfl rfl cu_X10_80_X3 rfl rfl (k_sh_X3 m _ _ _) ?_
    refine j_iret dX10_shinesOf_23 rfl ?_
    exact ⟨rfl, rfl⟩
  · refine j_dy3f 23 dX10_shinesOf_20 rfl rfl cu_X10_80_X2 rfl rfl (k_sh_X1 m 7 _ _ _) ?_
    refine j_iret dX10_shinesOf_23 rfl ?_
    exact ⟨rfl, rfl⟩
  · refine j_dy3f 23 dX10_shinesOf_20 rfl rfl cu_X10_80_X4 rfl rfl (k_sh_X4 m _ _ _) ?_
    refine j_iret dX10_shinesOf_23 rfl ?_
    exact ⟨rfl, rfl⟩
set_option maxRecDepth 100000 in
theorem c_needsOf_9 (m : Mem) (h k : Nat) (hh : h < 8) (hk : k < 7) (hm : m 12 h = nI k) : JM l g 2 mX10_needsOf [rf g 9, .int (nI h)] m (RF (some (.int (neF k (m 13 h)))) m) := by
  refine JM_of (ls := [some (rf g 9), some (.int (nI h))]) pn_X10 rfl rfl ?_
  refine j_aload0 1 dX10_needsOf_0 rfl ?_
  refine j_iload1 2 dX10_needsOf_1 rfl ?_
  refine j_vi1f 5 dX10_needsOf_2 rfl rfl cl_X10_66 rfl rfl (c_kindOf_9 m h k hh hk hm) ?_
  refine j_aload0 6 dX10_needsOf_5 rfl ?_
  refine j_getR 9 dX10_needsOf_6 rfl fl_X10_21 rfl rfl ?_
  refine j_iload1 10 dX10_needsOf_9 rfl ?_
  refine j_iald 11 _ rfl (by first | assumption | decide | omega) dX10_needsOf_10 rfl rfl ?_
  rcases (show k = 0 ∨ k = 1 ∨ k = 2 ∨ k = 3 ∨ k = 4 ∨ k = 5 ∨ k = 6 by omega) with rfl | rfl | rfl | rfl | rfl | rfl | rfl
  · refine j_dy1f 14 dX10_needsOf_11 rfl rfl cu_X10_83_X5 rfl rfl (k_ne_X5 m 2 _) ?_
    refine j_iret dX10_needsOf_14 rfl ?_
    exact ⟨rfl, rfl⟩
  · refine j_dy1f 14 dX10_needsOf_11 rfl rfl cu_X10_83_X7 rfl rfl (k_ne_X7 m 3 _) ?_
    refine j_iret dX10_needsOf_14 rfl ?_
    exact ⟨rfl, rfl⟩
  · refine j_dy1f 14 dX10_needsOf_11 rfl rfl cu_X10_83_X1 rfl rfl (k_ne_X1 m 4 _) ?_
    refine j_iret dX10_needsOf_14 rfl ?_
    exact ⟨rfl, rfl⟩
  · refine j_dy1f 14 dX10_needsOf_11 rfl rfl cu_X10_83_X0 rfl rfl (k_ne_X0 m 5 _) ?_
    refine j_iret dX10_needsOf_14 rfl ?_
    exact ⟨rfl, rfl⟩
  · refine j_dy1f 14 dX10_needsOf_11 rfl rfl cu_X10_83_X3 rfl rfl (k_ne_X3 m 6 _) ?_
    refine j_iret dX10_needsOf_14 rfl ?_
    exact ⟨rfl, rfl⟩
  · refine j_dy1f 14 dX10_needsOf_11 rfl rfl cu_X10_83_X2 rfl rfl (k_ne_X2 m 7 _) ?_
    refine j_iret dX10_needsOf_14 rfl ?_
    exact ⟨rfl, rfl⟩
  · refine j_dy1f 14 dX10_needsOf_11 rfl rfl cu_X10_83_X4 rfl rfl (k_ne_X4 m _) ?_
    refine j_iret dX10_needsOf_14 rfl ?_
    exact ⟨rfl, rfl⟩
set_option maxRecDepth 100000 in
theorem c_isContent_9 (m : Mem) (h k : Nat) (hh : h < 8) (hk : k < 7) (hm : m 12 h = nI k) (hA : m 15 h = 0 → ∃ j, j < 16 ∧ m 16 h = nI j) : JM l g 3 mX10_isContent [rf g 9, .int (nI h)] m (RF (some (.int (bz (m 15 h = 0 ∧ (m 16 h = m 14 h ∨ neF k (m 13 h) ≤ m 10 (m 16 h).toNatClampNeg))))) m) := by
  refine JM_of (ls := [some (rf g 9), some (.int (nI h))]) pn_X10 rfl rfl ?_
  refine j_aload0 1 dX10_isContent_0 rfl ?_
  refine j_iload1 2 dX10_isContent_1 rfl ?_
  refine j_vi1f 5 dX10_isContent_2 rfl rfl cl_X10_86 rfl rfl (c_isDust_9 m h hh) ?_
  refine j_if_eq_bz 45 8 dX10_isContent_5 rfl rfl (fun h5 => ?_) (fun h5 => ?_)
  · refine j_iconst 46 (v := 0) dX10_isContent_45 rfl rfl ?_
    refine j_zret (by first | exact bz_01 | exact Or.inl rfl | exact Or.inr rfl | assumption) dX10_isContent_46 rfl ?_
    first | exact rf_f (fun q => h5 q.1) | exact rf_t ⟨h5, Or.inl h20⟩ | exact rf_f (fun q => q.2.elim h20 (fun z => absurd (show neF k (m 13 h) ≤ m 10 j by rw [ej, nI_clamp (by omega)] at z; exact z) (Int32.not_le.mpr h38))) | exact rf_t ⟨h5, Or.inr (by rw [ej, nI_clamp (by omega)]; exact Int32.not_lt.mp h38)⟩
  · obtain ⟨j, hj, ej⟩ := hA h5
    refine j_aload0 9 dX10_isContent_8 rfl ?_
    refine j_getR 12 dX10_isContent_9 rfl fl_X10_30 rfl rfl ?_
    refine j_iload1 13 dX10_isContent_12 rfl ?_
    refine j_iald 14 _ rfl (by first | assumption | decide | omega) dX10_isContent_13 rfl rfl ?_
    refine j_aload0 15 dX10_isContent_14 rfl ?_
    refine j_getR 18 dX10_isContent_15 rfl fl_X10_24 rfl rfl ?_
    refine j_iload1 19 dX10_isContent_18 rfl ?_
    refine j_iald 20 _ rfl (by first | assumption | decide | omega) dX10_isContent_19 rfl rfl ?_
    refine j_cmp_eq 41 23 dX10_isContent_20 rfl rfl (fun h20 => ?_) (fun h20 => ?_)
    · refine j_iconst 42 (v := 1) dX10_isContent_41 rfl rfl ?_
      refine j_goto 46 dX10_isContent_42 rfl ?_
      refine j_zret (by first | exact bz_01 | exact Or.inl rfl | exact Or.inr rfl | assumption) dX10_isContent_46 rfl ?_
      first | exact rf_f (fun q => h5 q.1) | exact rf_t ⟨h5, Or.inl h20⟩ | exact rf_f (fun q => q.2.elim h20 (fun z => absurd (show neF k (m 13 h) ≤ m 10 j by rw [ej, nI_clamp (by omega)] at z; exact z) (Int32.not_le.mpr h38))) | exact rf_t ⟨h5, Or.inr (by rw [ej, nI_clamp (by omega)]; exact Int32.not_lt.mp h38)⟩
    · refine j_aload0 24 dX10_isContent_23 rfl ?_
      refine j_aload0 25 dX10_isContent_24 rfl ?_
      refine j_getR 28 dX10_isContent_25 rfl fl_X10_30 rfl rfl ?_
      refine j_iload1 29 dX10_isContent_28 rfl ?_
      refine j_iald 30 _ rfl (by first | assumption | decide | omega) dX10_isContent_29 rfl rfl ?_
      refine j_top ej ?_
      refine j_vi1f 33 dX10_isContent_30 rfl rfl cl_X10_76 rfl rfl (c_sunOf_9 m j hj) ?_
      refine j_aload0 34 dX10_isContent_33 rfl ?_
      refine j_iload1 35 dX10_isContent_34 rfl ?_
      refine j_vi1f 38 dX10_isContent_35 rfl rfl cl_X10_90 rfl rfl (c_needsOf_9 m h k hh hk hm) ?_
      refine j_cmp_lt 45 41 dX10_isContent_38 rfl rfl (fun h38 => ?_) (fun h38 => ?_)
      · refine j_iconst 46 (v := 0) dX10_isContent_45 rfl rfl ?_
        refine j_zret (by first | exact bz_01 | exact Or.inl rfl | exact Or.inr rfl | assumption) dX10_isContent_46 rfl ?_
        first | exact rf_f (fun q => h5 q.1) | exact rf_t ⟨h5, Or.inl h20⟩ | exact rf_f (fun q => q.2.elim h20 (fun z => absurd (show neF k (m 13 h) ≤ m 10 j by rw [ej, nI_clamp (by omega)] at z; exact z) (Int32.not_le.mpr h38))) | exact rf_t ⟨h5, Or.inr (by rw [ej, nI_clamp (by omega)]; exact Int32.not_lt.mp h38)⟩
      · refine j_iconst 42 (v := 1) dX10_isContent_41 rfl rfl ?_
        refine j_goto 46 dX10_isContent_42 rfl ?_
        refine j_zret (by first | exact bz_01 | exact Or.inl rfl | exact Or.inr rfl | assumption) dX10_isContent_46 rfl ?_
        first | exact rf_f (fun q => h5 q.1) | exact rf_t ⟨h5, Or.inl h20⟩ | exact rf_f (fun q => q.2.elim h20 (fun z => absurd (show neF k (m 13 h) ≤ m 10 j by rw [ej, nI_clamp (by omega)] at z; exact z) (Int32.not_le.mpr h38))) | exact rf_t ⟨h5, Or.inr (by rw [ej, nI_clamp (by omega)]; exact Int32.not_lt.mp h38)⟩
set_option maxRecDepth 100000 in
theorem c_driftsOf_18 (m : Mem) (h k : Nat) (x : Int32) (hh : h < 8) (hk : k < 7) (hm : m 21 h = nI k) : JM l g 2 mX10_driftsOf [rf g 18, .int (nI h), .int x] m (RF (some (.int (drF k x (m 22 h) (m 18 13)))) m) := by
  refine JM_of (ls := [some (rf g 18), some (.int (nI h)), some (.int x)]) pn_X10 rfl rfl ?_
  refine j_aload0 1 dX10_driftsOf_0 rfl ?_
  refine j_iload1 2 dX10_driftsOf_1 rfl ?_
  refine j_vi1f 5 dX10_driftsOf_2 rfl rfl cl_X10_66 rfl rfl (c_kindOf_18 m h k hh hk hm) ?_
  refine j_iload2 6 dX10_driftsOf_5 rfl ?_
  refine j_aload0 7 dX10_driftsOf_6 rfl ?_
  refine j_getR 10 dX10_driftsOf_7 rfl fl_X10_21 rfl rfl ?_
  refine j_iload1 11 dX10_driftsOf_10 rfl ?_
  refine j_iald 12 _ rfl (by first | assumption | decide | omega) dX10_driftsOf_11 rfl rfl ?_
  refine j_aload0 13 dX10_driftsOf_12 rfl ?_
  refine j_getI 16 dX10_driftsOf_13 rfl fl_X10_59 rfl rfl ?_
  rcases (show k = 0 ∨ k = 1 ∨ k = 2 ∨ k = 3 ∨ k = 4 ∨ k = 5 ∨ k = 6 by omega) with rfl | rfl | rfl | rfl | rfl | rfl | rfl
  · refine j_dy3f 19 dX10_driftsOf_16 rfl rfl cu_X10_70_X5 rfl rfl (k_dr_X5 m 2 _ _ _) ?_
    refine j_iret dX10_driftsOf_19 rfl ?_
    exact ⟨rfl, rfl⟩
  · refine j_dy3f 19 dX10_driftsOf_16 rfl rfl cu_X10_70_X7 rfl rfl (k_dr_X7 m 3 _ _ _) ?_
    refine j_iret dX10_driftsOf_19 rfl ?_
    exact ⟨rfl, rfl⟩
  · refine j_dy3f 19 dX10_driftsOf_16 rfl rfl cu_X10_70_X1 rfl rfl (k_dr_X1 m 4 _ _ _) ?_
    refine j_iret dX10_driftsOf_19 rfl ?_
    exact ⟨rfl, rfl⟩
  · refine j_dy3f 19 dX10_driftsOf_16 rfl rfl cu_X10_70_X0 rfl rfl (k_dr_X0 m 5 _ _ _) ?_
    refine j_iret dX10_driftsOf_19 rfl ?_
    exact ⟨rfl, rfl⟩
  · refine j_dy3f 19 dX10_driftsOf_16 rfl rfl cu_X10_70_X3 rfl rfl (k_dr_X3 m 6 _ _ _) ?_
    refine j_iret dX10_driftsOf_19 rfl ?_
    exact ⟨rfl, rfl⟩
  · refine j_dy3f 19 dX10_driftsOf_16 rfl rfl cu_X10_70_X2 rfl rfl (k_dr_X2 m _ _ _) ?_
    refine j_iret dX10_driftsOf_19 rfl ?_
    exact ⟨rfl, rfl⟩
  · refine j_dy3f 19 dX10_driftsOf_16 rfl rfl cu_X10_70_X4 rfl rfl (k_dr_X4 m _ _ _) ?_
    refine j_iret dX10_driftsOf_19 rfl ?_
    exact ⟨rfl, rfl⟩
set_option maxRecDepth 100000 in
theorem c_shinesOf_18 (m : Mem) (h k j : Nat) (hh : h < 8) (hk : k < 7) (hj : j < 16) (hm : m 21 h = nI k) : JM l g 2 mX10_shinesOf [rf g 18, .int (nI h), .int (nI j)] m (RF (some (.int (shF k (m 19 j) (m 22 h) (m 18 13)))) m) := by
  refine JM_of (ls := [some (rf g 18), some (.int (nI h)), some (.int (nI j))]) pn_X10 rfl rfl ?_
  refine j_aload0 1 dX10_shinesOf_0 rfl ?_
  refine j_iload1 2 dX10_shinesOf_1 rfl ?_
  refine j_vi1f 5 dX10_shinesOf_2 rfl rfl cl_X10_66 rfl rfl (c_kindOf_18 m h k hh hk hm) ?_
  refine j_aload0 6 dX10_shinesOf_5 rfl ?_
  refine j_iload2 7 dX10_shinesOf_6 rfl ?_
  refine j_vi1f 10 dX10_shinesOf_7 rfl rfl cl_X10_76 rfl rfl (c_sunOf_18 m j hj) ?_
  refine j_aload0 11 dX10_shinesOf_10 rfl ?_
  refine j_getR 14 dX10_shinesOf_11 rfl fl_X10_21 rfl rfl ?_
  refine j_iload1 15 dX10_shinesOf_14 rfl ?_
  refine j_iald 16 _ rfl (by first | assumption | decide | omega) dX10_shinesOf_15 rfl rfl ?_
  refine j_aload0 17 dX10_shinesOf_16 rfl ?_
  refine j_getI 20 dX10_shinesOf_17 rfl fl_X10_59 rfl rfl ?_
  rcases (show k = 0 ∨ k = 1 ∨ k = 2 ∨ k = 3 ∨ k = 4 ∨ k = 5 ∨ k = 6 by omega) with rfl | rfl | rfl | rfl | rfl | rfl | rfl
  · refine j_dy3f 23 dX10_shinesOf_20 rfl rfl cu_X10_80_X5 rfl rfl (k_sh_X5 m 2 _ _ _) ?_
    refine j_iret dX10_shinesOf_23 rfl ?_
    exact ⟨rfl, rfl⟩
  · refine j_dy3f 23 dX10_shinesOf_20 rfl rfl cu_X10_80_X7 rfl rfl (k_sh_X7 m 3 _ _ _) ?_
    refine j_iret dX10_shinesOf_23 rfl ?_
    exact ⟨rfl, rfl⟩
  · refine j_dy3f 23 dX10_shinesOf_20 rfl rfl cu_X10_80_X1 rfl rfl (k_sh_X1 m 4 _ _ _) ?_
    refine j_iret dX10_shinesOf_23 rfl ?_
    exact ⟨rfl, rfl⟩
  · refine j_dy3f 23 dX10_shinesOf_20 rfl rfl cu_X10_80_X0 rfl rfl (k_sh_X0 m 5 _ _ _) ?_
    refine j_iret dX10_shinesOf_23 rfl ?_
    exact ⟨rfl, rfl⟩
  · refine j_dy3f 23 dX10_shinesOf_20 rfl rfl cu_X10_80_X3 rfl rfl (k_sh_X3 m _ _ _) ?_
    refine j_iret dX10_shinesOf_23 rfl ?_
    exact ⟨rfl, rfl⟩
  · refine j_dy3f 23 dX10_shinesOf_20 rfl rfl cu_X10_80_X2 rfl rfl (k_sh_X1 m 7 _ _ _) ?_
    refine j_iret dX10_shinesOf_23 rfl ?_
    exact ⟨rfl, rfl⟩
  · refine j_dy3f 23 dX10_shinesOf_20 rfl rfl cu_X10_80_X4 rfl rfl (k_sh_X4 m _ _ _) ?_
    refine j_iret dX10_shinesOf_23 rfl ?_
    exact ⟨rfl, rfl⟩
set_option maxRecDepth 100000 in
theorem c_needsOf_18 (m : Mem) (h k : Nat) (hh : h < 8) (hk : k < 7) (hm : m 21 h = nI k) : JM l g 2 mX10_needsOf [rf g 18, .int (nI h)] m (RF (some (.int (neF k (m 22 h)))) m) := by
  refine JM_of (ls := [some (rf g 18), some (.int (nI h))]) pn_X10 rfl rfl ?_
  refine j_aload0 1 dX10_needsOf_0 rfl ?_
  refine j_iload1 2 dX10_needsOf_1 rfl ?_
  refine j_vi1f 5 dX10_needsOf_2 rfl rfl cl_X10_66 rfl rfl (c_kindOf_18 m h k hh hk hm) ?_
  refine j_aload0 6 dX10_needsOf_5 rfl ?_
  refine j_getR 9 dX10_needsOf_6 rfl fl_X10_21 rfl rfl ?_
  refine j_iload1 10 dX10_needsOf_9 rfl ?_
  refine j_iald 11 _ rfl (by first | assumption | decide | omega) dX10_needsOf_10 rfl rfl ?_
  rcases (show k = 0 ∨ k = 1 ∨ k = 2 ∨ k = 3 ∨ k = 4 ∨ k = 5 ∨ k = 6 by omega) with rfl | rfl | rfl | rfl | rfl | rfl | rfl
  · refine j_dy1f 14 dX10_needsOf_11 rfl rfl cu_X10_83_X5 rfl rfl (k_ne_X5 m 2 _) ?_
    refine j_iret dX10_needsOf_14 rfl ?_
    exact ⟨rfl, rfl⟩
  · refine j_dy1f 14 dX10_needsOf_11 rfl rfl cu_X10_83_X7 rfl rfl (k_ne_X7 m 3 _) ?_
    refine j_iret dX10_needsOf_14 rfl ?_
    exact ⟨rfl, rfl⟩
  · refine j_dy1f 14 dX10_needsOf_11 rfl rfl cu_X10_83_X1 rfl rfl (k_ne_X1 m 4 _) ?_
    refine j_iret dX10_needsOf_14 rfl ?_
    exact ⟨rfl, rfl⟩
  · refine j_dy1f 14 dX10_needsOf_11 rfl rfl cu_X10_83_X0 rfl rfl (k_ne_X0 m 5 _) ?_
    refine j_iret dX10_needsOf_14 rfl ?_
    exact ⟨rfl, rfl⟩
  · refine j_dy1f 14 dX10_needsOf_11 rfl rfl cu_X10_83_X3 rfl rfl (k_ne_X3 m 6 _) ?_
    refine j_iret dX10_needsOf_14 rfl ?_
    exact ⟨rfl, rfl⟩
  · refine j_dy1f 14 dX10_needsOf_11 rfl rfl cu_X10_83_X2 rfl rfl (k_ne_X2 m 7 _) ?_
    refine j_iret dX10_needsOf_14 rfl ?_
    exact ⟨rfl, rfl⟩
  · refine j_dy1f 14 dX10_needsOf_11 rfl rfl cu_X10_83_X4 rfl rfl (k_ne_X4 m _) ?_
    refine j_iret dX10_needsOf_14 rfl ?_
    exact ⟨rfl, rfl⟩
set_option maxRecDepth 100000 in
theorem c_isContent_18 (m : Mem) (h k : Nat) (hh : h < 8) (hk : k < 7) (hm : m 21 h = nI k) (hA : m 24 h = 0 → ∃ j, j < 16 ∧ m 25 h = nI j) : JM l g 3 mX10_isContent [rf g 18, .int (nI h)] m (RF (some (.int (bz (m 24 h = 0 ∧ (m 25 h = m 23 h ∨ neF k (m 22 h) ≤ m 19 (m 25 h).toNatClampNeg))))) m) := by
  refine JM_of (ls := [some (rf g 18), some (.int (nI h))]) pn_X10 rfl rfl ?_
  refine j_aload0 1 dX10_isContent_0 rfl ?_
  refine j_iload1 2 dX10_isContent_1 rfl ?_
  refine j_vi1f 5 dX10_isContent_2 rfl rfl cl_X10_86 rfl rfl (c_isDust_18 m h hh) ?_
  refine j_if_eq_bz 45 8 dX10_isContent_5 rfl rfl (fun h5 => ?_) (fun h5 => ?_)
  · refine j_iconst 46 (v := 0) dX10_isContent_45 rfl rfl ?_
    refine j_zret (by first | exact bz_01 | exact Or.inl rfl | exact Or.inr rfl | assumption) dX10_isContent_46 rfl ?_
    first | exact rf_f (fun q => h5 q.1) | exact rf_t ⟨h5, Or.inl h20⟩ | exact rf_f (fun q => q.2.elim h20 (fun z => absurd (show neF k (m 22 h) ≤ m 19 j by rw [ej, nI_clamp (by omega)] at z; exact z) (Int32.not_le.mpr h38))) | exact rf_t ⟨h5, Or.inr (by rw [ej, nI_clamp (by omega)]; exact Int32.not_lt.mp h38)⟩
  · obtain ⟨j, hj, ej⟩ := hA h5
    refine j_aload0 9 dX10_isContent_8 rfl ?_
    refine j_getR 12 dX10_isContent_9 rfl fl_X10_30 rfl rfl ?_
    refine j_iload1 13 dX10_isContent_12 rfl ?_
    refine j_iald 14 _ rfl (by first | assumption | decide | omega) dX10_isContent_13 rfl rfl ?_
    refine j_aload0 15 dX10_isContent_14 rfl ?_
    refine j_getR 18 dX10_isContent_15 rfl fl_X10_24 rfl rfl ?_
    refine j_iload1 19 dX10_isContent_18 rfl ?_
    refine j_iald 20 _ rfl (by first | assumption | decide | omega) dX10_isContent_19 rfl rfl ?_
    refine j_cmp_eq 41 23 dX10_isContent_20 rfl rfl (fun h20 => ?_) (fun h20 => ?_)
    · refine j_iconst 42 (v := 1) dX10_isContent_41 rfl rfl ?_
      refine j_goto 46 dX10_isContent_42 rfl ?_
      refine j_zret (by first | exact bz_01 | exact Or.inl rfl | exact Or.inr rfl | assumption) dX10_isContent_46 rfl ?_
      first | exact rf_f (fun q => h5 q.1) | exact rf_t ⟨h5, Or.inl h20⟩ | exact rf_f (fun q => q.2.elim h20 (fun z => absurd (show neF k (m 22 h) ≤ m 19 j by rw [ej, nI_clamp (by omega)] at z; exact z) (Int32.not_le.mpr h38))) | exact rf_t ⟨h5, Or.inr (by rw [ej, nI_clamp (by omega)]; exact Int32.not_lt.mp h38)⟩
    · refine j_aload0 24 dX10_isContent_23 rfl ?_
      refine j_aload0 25 dX10_isContent_24 rfl ?_
      refine j_getR 28 dX10_isContent_25 rfl fl_X10_30 rfl rfl ?_
      refine j_iload1 29 dX10_isContent_28 rfl ?_
      refine j_iald 30 _ rfl (by first | assumption | decide | omega) dX10_isContent_29 rfl rfl ?_
      refine j_top ej ?_
      refine j_vi1f 33 dX10_isContent_30 rfl rfl cl_X10_76 rfl rfl (c_sunOf_18 m j hj) ?_
      refine j_aload0 34 dX10_isContent_33 rfl ?_
      refine j_iload1 35 dX10_isContent_34 rfl ?_
      refine j_vi1f 38 dX10_isContent_35 rfl rfl cl_X10_90 rfl rfl (c_needsOf_18 m h k hh hk hm) ?_
      refine j_cmp_lt 45 41 dX10_isContent_38 rfl rfl (fun h38 => ?_) (fun h38 => ?_)
      · refine j_iconst 46 (v := 0) dX10_isContent_45 rfl rfl ?_
        refine j_zret (by first | exact bz_01 | exact Or.inl rfl | exact Or.inr rfl | assumption) dX10_isContent_46 rfl ?_
        first | exact rf_f (fun q => h5 q.1) | exact rf_t ⟨h5, Or.inl h20⟩ | exact rf_f (fun q => q.2.elim h20 (fun z => absurd (show neF k (m 22 h) ≤ m 19 j by rw [ej, nI_clamp (by omega)] at z; exact z) (Int32.not_le.mpr h38))) | exact rf_t ⟨h5, Or.inr (by rw [ej, nI_clamp (by omega)]; exact Int32.not_lt.mp h38)⟩
      · refine j_iconst 42 (v := 1) dX10_isContent_41 rfl rfl ?_
        refine j_goto 46 dX10_isContent_42 rfl ?_
        refine j_zret (by first | exact bz_01 | exact Or.inl rfl | exact Or.inr rfl | assumption) dX10_isContent_46 rfl ?_
        first | exact rf_f (fun q => h5 q.1) | exact rf_t ⟨h5, Or.inl h20⟩ | exact rf_f (fun q => q.2.elim h20 (fun z => absurd (show neF k (m 22 h) ≤ m 19 j by rw [ej, nI_clamp (by omega)] at z; exact z) (Int32.not_le.mpr h38))) | exact rf_t ⟨h5, Or.inr (by rw [ej, nI_clamp (by omega)]; exact Int32.not_lt.mp h38)⟩
end KN
