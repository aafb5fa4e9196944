theorem sum_bc : ∀ s : Fin 256, sumF (bitf (nI s.val)) 16 = bcF (nI s.val) := by decide +kernel
theorem sum_set (P : Nat → Prop) [DecidablePred P] {n : Nat} (h : n ≤ 8) : sumF (bitf (setF P n)) 16 = nI (cN P n) := by
  have l1 := sN_lt P n
  have l2 : 2 ^ n ≤ 256 := Nat.pow_le_pow_right (by decide) h
  rw [← bc_set P h, setF_sN P n h]
  exact sum_bc ⟨sN P n, by omega⟩
theorem cN_le (P : Nat → Prop) [DecidablePred P] : ∀ n, cN P n ≤ n
  | 0 => Nat.le_refl 0
  | n + 1 => by
    have := cN_le P n
    unfold cN
    split <;> omega
/-- heirs whose dust lies on SILL s -/
abbrev cwN (e : Nat → Int32) (s : Nat) : Nat := cN (fun h => hf e h 4 = nI s) (hn e)
def moN (e : Nat → Int32) : Nat → Nat
  | 0 => 0
  | s + 1 => if moN e s < cwN e s then cwN e s else moN e s
def plN (e : Nat → Int32) : Nat → Nat
  | 0 => 0
  | s + 1 => if moN e s < cwN e s then s else plN e s
theorem mo_pl (e : Nat → Int32) : ∀ s, moN e (s + 1) = cwN e (plN e (s + 1))
  | 0 => by
    by_cases q : moN e 0 < cwN e 0
    · show (if moN e 0 < cwN e 0 then cwN e 0 else moN e 0) = cwN e (if moN e 0 < cwN e 0 then 0 else plN e 0)
      rw [if_pos q, if_pos q]
    · show (if moN e 0 < cwN e 0 then cwN e 0 else moN e 0) = cwN e (if moN e 0 < cwN e 0 then 0 else plN e 0)
      rw [if_neg q, if_neg q]
      have : moN e 0 = 0 := rfl
      show moN e 0 = cwN e 0
      omega
  | s + 1 => by
    have ih := mo_pl e s
    by_cases q : moN e (s + 1) < cwN e (s + 1)
    · show (if moN e (s + 1) < cwN e (s + 1) then cwN e (s + 1) else moN e (s + 1)) = cwN e (if moN e (s + 1) < cwN e (s + 1) then s + 1 else plN e (s + 1))
      rw [if_pos q, if_pos q]
    · show (if moN e (s + 1) < cwN e (s + 1) then cwN e (s + 1) else moN e (s + 1)) = cwN e (if moN e (s + 1) < cwN e (s + 1) then s + 1 else plN e (s + 1))
      rw [if_neg q, if_neg q]
      exact ih
theorem mo_le (e : Nat → Int32) (h : hn e ≤ 8) : ∀ s, moN e s ≤ 8
  | 0 => Nat.zero_le _
  | s + 1 => by
    have := mo_le e h s
    have : cwN e s ≤ hn e := cN_le _ _
    show (if moN e s < cwN e s then cwN e s else moN e s) ≤ 8
    split <;> omega
theorem mo_t {e : Nat → Int32} {s : Nat} (q : moN e s < cwN e s) : moN e (s + 1) = cwN e s ∧ plN e (s + 1) = s := ⟨if_pos q, if_pos q⟩
theorem mo_f {e : Nat → Int32} {s : Nat} (q : ¬ moN e s < cwN e s) : moN e (s + 1) = moN e s ∧ plN e (s + 1) = plN e s := ⟨if_neg q, if_neg q⟩
section O13
variable {l : Launch} {g : Gv}
set_option maxRecDepth 100000 in
theorem lp_bits {Q : Option Value → Mem → Prop} (m : Mem) (x : Int32) (hq : Q (some (.int (sumF (bitf x) 16))) m) : ∀ (k i : Nat), i + k = 16 → J l g 0 mX12_bits 4 [some (.int x), some (.int (sumF (bitf x) i)), some (.int (nI i))] [] m Q := by
  intro k
  induction k with
  | zero =>
    intro i e1
    have e1 : i = 16 := by omega
    subst e1
    refine j_iload2 5 dX12_bits_4 rfl ?_
    refine j_bipush 7 (v := 16) dX12_bits_5 rfl rfl ?_
    refine j_cmp_ge 24 10 dX12_bits_7 rfl rfl (fun h7 => ?_) (fun h7 => absurd (by decide) h7)
    refine j_iload1 25 dX12_bits_24 rfl ?_
    refine j_iret dX12_bits_25 rfl ?_
    exact hq
  | succ k ih =>
    intro i e1
    have e2 : nI i + 1 = nI (i + 1) := nI_1 i
    refine j_iload2 5 dX12_bits_4 rfl ?_
    refine j_bipush 7 (v := 16) dX12_bits_5 rfl rfl ?_
    refine j_cmp_ge 24 10 dX12_bits_7 rfl rfl (fun h7 => absurd h7 (show ¬ (16 : Int32) ≤ nI i from nI_ge (a := i) (b := 16) (by omega) (by decide))) (fun h7 => ?_)
    refine j_iload1 11 dX12_bits_10 rfl ?_
    refine j_iload0 12 dX12_bits_11 rfl ?_
    refine j_iload2 13 dX12_bits_12 rfl ?_
    refine j_ishr 14 dX12_bits_13 rfl ?_
    refine j_iconst 15 (v := 1) dX12_bits_14 rfl rfl ?_
    refine j_iand 16 dX12_bits_15 rfl ?_
    refine j_iadd 17 dX12_bits_16 rfl ?_
    refine j_istore1 18 dX12_bits_17 rfl rfl rfl ?_
    refine j_iinc2 21 (1) dX12_bits_18 rfl rfl rfl rfl ?_
    refine j_goto 4 dX12_bits_21 rfl ?_
    rw [e2]
    exact ih (i + 1) (by omega)
set_option maxRecDepth 100000 in
theorem c_bitsS (m : Mem) (P : Nat → Prop) [DecidablePred P] (n : Nat) (h : n ≤ 8) : JM l g 0 mX12_bits [.int (setF P n)] m (RF (some (.int (nI (cN P n)))) m) := by
  refine JM_of (ls := [some (.int (setF P n)), none, none]) pn_X12 rfl rfl ?_
  refine j_iconst 1 (v := 0) dX12_bits_0 rfl rfl ?_
  refine j_istore1 2 dX12_bits_1 rfl rfl rfl ?_
  refine j_iconst 3 (v := 0) dX12_bits_2 rfl rfl ?_
  refine j_istore2 4 dX12_bits_3 rfl rfl rfl ?_
  exact lp_bits m (setF P n) ⟨by rw [sum_set P h], rfl⟩ 16 0 rfl
theorem c_bcS (m : Mem) (P : Nat → Prop) [DecidablePred P] (n : Nat) (h : n ≤ 8) : JM l g 0 mJ6_bitCount_0f7a4 [.int (setF P n)] m (RF (some (.int (nI (cN P n)))) m) := by
  rw [← bc_set P h]
  exact c_bitCount m _
set_option maxRecDepth 100000 in
theorem lp_crowd {Q : Option Value → Mem → Prop} (n wh : Int32) (m : Mem) (e : Nat → Int32) (w : WF e) (hT : TR 18 m e) (hq : Q (some (.int (if wh = 0 then nI (plN e 16) else nI (moN e 16)))) m) : ∀ (k s : Nat) (o : Option Value), s + k = 16 → J l g 6 mX11_crowd 50 [some (rf g 0), some (.int n), some (.int wh), some (.int (nI (plN e s))), some (.int (nI (moN e s))), some (.int (nI s)), o] [] m Q := by
  have wn := w.n
  intro k
  induction k with
  | zero =>
    intro s o e1
    have e1 : s = 16 := by omega
    subst e1
    refine j_iload5 52 dX11_crowd_50 rfl ?_
    refine j_bipush 54 (v := 16) dX11_crowd_52 rfl rfl ?_
    refine j_cmp_ge 91 57 dX11_crowd_54 rfl rfl (fun h54 => ?_) (fun h54 => absurd (by decide) h54)
    refine j_iload2 92 dX11_crowd_91 rfl ?_
    refine j_if_ne 99 95 dX11_crowd_92 rfl rfl (fun h92 => ?_) (fun h92 => ?_)
    · refine j_iload4 101 dX11_crowd_99 rfl ?_
      refine j_iret dX11_crowd_101 rfl ?_
      first | (rw [if_pos h92] at hq; exact hq) | (rw [if_neg h92] at hq; exact hq)
    · refine j_iload3 96 dX11_crowd_95 rfl ?_
      refine j_goto 101 dX11_crowd_96 rfl ?_
      refine j_iret dX11_crowd_101 rfl ?_
      first | (rw [if_pos h92] at hq; exact hq) | (rw [if_neg h92] at hq; exact hq)
  | succ k ih =>
    intro s o e1
    have e2 : nI s + 1 = nI (s + 1) := nI_1 s
    have b1 := mo_le e wn.1 s
    have b2 : cwN e s ≤ hn e := cN_le _ _
    refine j_iload5 52 dX11_crowd_50 rfl ?_
    refine j_bipush 54 (v := 16) dX11_crowd_52 rfl rfl ?_
    refine j_cmp_ge 91 57 dX11_crowd_54 rfl rfl (fun h54 => absurd h54 (show ¬ (16 : Int32) ≤ nI s from nI_ge (a := s) (b := 16) (by omega) (by decide))) (fun h54 => ?_)
    refine j_aload0 58 dX11_crowd_57 rfl ?_
    refine j_getR 61 dX11_crowd_58 rfl fl_X11_39 rfl rfl ?_
    refine j_iload5 63 dX11_crowd_61 rfl ?_
    refine j_vi1f 66 dX11_crowd_63 rfl rfl cl_X11_96 rfl rfl (c_dustAt_18 m e w _ (nb_m1 ⟨s, (show s < 16 by omega), rfl⟩ (by decide)) hT) ?_
    refine j_st1f 69 dX11_crowd_66 rfl rfl cl_X11_239 rfl (c_bcS m _ _ wn.1) ?_
    refine j_istore6 71 dX11_crowd_69 rfl rfl rfl ?_
    refine j_iload6 73 dX11_crowd_71 rfl ?_
    refine j_iload4 75 dX11_crowd_73 rfl ?_
    refine j_cmp_le 85 78 dX11_crowd_75 rfl rfl (fun h75 => ?_) (fun h75 => ?_)
    · refine j_iinc5 88 (1) dX11_crowd_85 rfl rfl rfl rfl ?_
      refine j_goto 50 dX11_crowd_88 rfl ?_
      rw [e2]
      have h75' := (nI_leI (a := cwN e s) (b := moN e s) (by omega) (by omega))
      have ih1 := ih (s + 1) (some (.int (nI (cwN e s)))) (by omega)
      first | (rw [(mo_f (show ¬ moN e s < cwN e s from Nat.not_lt.mpr (h75'.mp h75))).1, (mo_f (show ¬ moN e s < cwN e s from Nat.not_lt.mpr (h75'.mp h75))).2] at ih1; exact ih1) | (rw [(mo_t (show moN e s < cwN e s from Nat.not_le.mp (fun q => h75 (h75'.mpr q)))).1, (mo_t (show moN e s < cwN e s from Nat.not_le.mp (fun q => h75 (h75'.mpr q)))).2] at ih1; exact ih1)
    · refine j_iload6 80 dX11_crowd_78 rfl ?_
      refine j_istore4 82 dX11_crowd_80 rfl rfl rfl ?_
      refine j_iload5 84 dX11_crowd_82 rfl ?_
      refine j_istore3 85 dX11_crowd_84 rfl rfl rfl ?_
      refine j_iinc5 88 (1) dX11_crowd_85 rfl rfl rfl rfl ?_
      refine j_goto 50 dX11_crowd_88 rfl ?_
      rw [e2]
      have h75' := (nI_leI (a := cwN e s) (b := moN e s) (by omega) (by omega))
      have ih1 := ih (s + 1) (some (.int (nI (cwN e s)))) (by omega)
      first | (rw [(mo_f (show ¬ moN e s < cwN e s from Nat.not_lt.mpr (h75'.mp h75))).1, (mo_f (show ¬ moN e s < cwN e s from Nat.not_lt.mpr (h75'.mp h75))).2] at ih1; exact ih1) | (rw [(mo_t (show moN e s < cwN e s from Nat.not_le.mp (fun q => h75 (h75'.mpr q)))).1, (mo_t (show moN e s < cwN e s from Nat.not_le.mp (fun q => h75 (h75'.mpr q)))).2] at ih1; exact ih1)
set_option maxRecDepth 100000 in
theorem lm_crowd {Q : Option Value → Mem → Prop} (n wh : Int32) (m : Mem) (w : WF (m 69)) (hq : J l g 7 mX12_crowd 82 [some (rf g 68), some (.int n), some (.int wh), some (.int (nI (plN (m 69) 16))), some (.int (nI 16))] [] m Q) : ∀ (k s : Nat), s + 1 + k = 16 → J l g 7 mX12_crowd 42 [some (rf g 68), some (.int n), some (.int wh), some (.int (nI (plN (m 69) (s + 1)))), some (.int (nI (s + 1)))] [] m Q := by
  have wn := w.n
  intro k
  induction k with
  | zero =>
    intro s e1
    have e1 : s = 15 := by omega
    subst e1
    refine j_iload4 44 dX12_crowd_42 rfl ?_
    refine j_bipush 46 (v := 16) dX12_crowd_44 rfl rfl ?_
    refine j_cmp_ge 82 49 dX12_crowd_46 rfl rfl (fun h46 => ?_) (fun h46 => absurd (by decide) h46)
    exact hq
  | succ k ih =>
    intro s e1
    have e2 : nI (s + 1) + 1 = nI (s + 1 + 1) := nI_1 (s + 1)
    have b1 := mo_le (m 69) wn.1 (s + 1)
    have b2 : cwN (m 69) (s + 1) ≤ hn (m 69) := cN_le _ _
    have mp := mo_pl (m 69) s
    refine j_iload4 44 dX12_crowd_42 rfl ?_
    refine j_bipush 46 (v := 16) dX12_crowd_44 rfl rfl ?_
    refine j_cmp_ge 82 49 dX12_crowd_46 rfl rfl (fun h46 => absurd h46 (show ¬ (16 : Int32) ≤ nI (s + 1) from nI_ge (a := s + 1) (b := 16) (by omega) (by decide))) (fun h46 => ?_)
    refine j_aload0 50 dX12_crowd_49 rfl ?_
    refine j_iload4 52 dX12_crowd_50 rfl ?_
    refine j_vi1f 55 dX12_crowd_52 rfl rfl cl_X12_184 rfl rfl (c_lying m _ w) ?_
    refine j_st1f 58 dX12_crowd_55 rfl rfl cl_X12_246 rfl (c_bitsS m _ _ wn.1) ?_
    refine j_aload0 59 dX12_crowd_58 rfl ?_
    refine j_iload3 60 dX12_crowd_59 rfl ?_
    refine j_vi1f 63 dX12_crowd_60 rfl rfl cl_X12_184 rfl rfl (c_lying m _ w) ?_
    refine j_st1f 66 dX12_crowd_63 rfl rfl cl_X12_246 rfl (c_bitsS m _ _ wn.1) ?_
    refine j_cmp_le 74 69 dX12_crowd_66 rfl rfl (fun h66 => ?_) (fun h66 => ?_)
    · refine j_iload3 75 dX12_crowd_74 rfl ?_
      refine j_istore3 76 dX12_crowd_75 rfl rfl rfl ?_
      refine j_iinc4 79 (1) dX12_crowd_76 rfl rfl rfl rfl ?_
      refine j_goto 42 dX12_crowd_79 rfl ?_
      rw [e2]
      have h66' := (nI_leI (a := cwN (m 69) (s + 1)) (b := cwN (m 69) (plN (m 69) (s + 1))) (by omega) (by omega))
      have ih1 := ih (s + 1) (by omega)
      first | (rw [(mo_f (show ¬ moN (m 69) (s + 1) < cwN (m 69) (s + 1) from Nat.not_lt.mpr (by rw [mp]; exact h66'.mp h66))).2] at ih1; exact ih1) | (rw [(mo_t (show moN (m 69) (s + 1) < cwN (m 69) (s + 1) from Nat.not_le.mp (fun q => h66 (h66'.mpr (by rw [← mp]; exact q))))).2] at ih1; exact ih1)
    · refine j_iload4 71 dX12_crowd_69 rfl ?_
      refine j_goto 75 dX12_crowd_71 rfl ?_
      refine j_istore3 76 dX12_crowd_75 rfl rfl rfl ?_
      refine j_iinc4 79 (1) dX12_crowd_76 rfl rfl rfl rfl ?_
      refine j_goto 42 dX12_crowd_79 rfl ?_
      rw [e2]
      have h66' := (nI_leI (a := cwN (m 69) (s + 1)) (b := cwN (m 69) (plN (m 69) (s + 1))) (by omega) (by omega))
      have ih1 := ih (s + 1) (by omega)
      first | (rw [(mo_f (show ¬ moN (m 69) (s + 1) < cwN (m 69) (s + 1) from Nat.not_lt.mpr (by rw [mp]; exact h66'.mp h66))).2] at ih1; exact ih1) | (rw [(mo_t (show moN (m 69) (s + 1) < cwN (m 69) (s + 1) from Nat.not_le.mp (fun q => h66 (h66'.mpr (by rw [← mp]; exact q))))).2] at ih1; exact ih1)
set_option maxRecDepth 100000 in
theorem e_crowd (m : Mem) (n v : Int32) (c : ¬ ((0 ≤ n ∧ n ≤ 60) ∧ 0 ≤ v ∧ v ≤ 1)) : JM l g 2 mX11_crowd [rf g 0, .int n, .int v] m (RF (some (.int (-1000000001))) (errC 1 m)) := by
  refine JM_of (ls := [some (rf g 0), some (.int n), some (.int v), none, none, none, none]) pn_X11 rfl rfl ?_
  refine j_iload1 1 dX11_crowd_0 rfl ?_
  refine j_iconst 2 (v := 0) dX11_crowd_1 rfl rfl ?_
  refine j_bipush 4 (v := 60) dX11_crowd_2 rfl rfl ?_
  refine j_st3f 7 dX11_crowd_4 rfl rfl cl_X11_86 rfl (c_within m n 0 60) ?_
  refine j_if_eq_bz 19 10 dX11_crowd_7 rfl rfl (fun h7 => ?_) (fun h7 => ?_)
  · refine j_aload0 20 dX11_crowd_19 rfl ?_
    refine j_ldc 22 dX11_crowd_20 rfl kc_X11_81 ?_
    refine j_vi1f 25 dX11_crowd_22 rfl rfl cl_X11_82 rfl rfl (c_err1 m) ?_
    refine j_iret dX11_crowd_25 rfl ?_
    exact ⟨rfl, rfl⟩
  · refine j_iload2 11 dX11_crowd_10 rfl ?_
    refine j_iconst 12 (v := 0) dX11_crowd_11 rfl rfl ?_
    refine j_iconst 13 (v := 1) dX11_crowd_12 rfl rfl ?_
    refine j_st3f 16 dX11_crowd_13 rfl rfl cl_X11_86 rfl (c_within m v 0 1) ?_
    refine j_if_ne_bz 26 19 dX11_crowd_16 rfl rfl (fun h16 => ?_) (fun h16 => ?_)
    · exact absurd ⟨h7, h16⟩ c
    · refine j_aload0 20 dX11_crowd_19 rfl ?_
      refine j_ldc 22 dX11_crowd_20 rfl kc_X11_81 ?_
      refine j_vi1f 25 dX11_crowd_22 rfl rfl cl_X11_82 rfl rfl (c_err1 m) ?_
      refine j_iret dX11_crowd_25 rfl ?_
      exact ⟨rfl, rfl⟩
set_option maxRecDepth 100000 in
theorem f_crowd (m : Mem) (n v : Int32) (c : ¬ ((0 ≤ n ∧ n ≤ 60) ∧ 0 ≤ v ∧ v ≤ 1)) : JM l g 2 mX12_crowd [rf g 68, .int n, .int v] m (RF (some (.int (-1000000001))) (errM 1 m)) := by
  refine JM_of (ls := [some (rf g 68), some (.int n), some (.int v), none, none]) pn_X12 rfl rfl ?_
  refine j_iload1 1 dX12_crowd_0 rfl ?_
  refine j_i2l 2 dX12_crowd_1 rfl ?_
  refine j_lconst 3 (v := 0) dX12_crowd_2 rfl rfl ?_
  refine j_ldc2 6 dX12_crowd_3 rfl kl_X12_212 ?_
  refine j_st3f 9 dX12_crowd_6 rfl rfl cl_X12_47 rfl (c_in m n 0 60) ?_
  refine j_if_eq_bz 22 12 dX12_crowd_9 rfl rfl (fun h9 => ?_) (fun h9 => ?_)
  · refine j_aload0 23 dX12_crowd_22 rfl ?_
    refine j_iconst 24 (v := 1) dX12_crowd_23 rfl rfl ?_
    refine j_vi1f 27 dX12_crowd_24 rfl rfl cl_X12_126 rfl rfl (c_finds1 m) ?_
    refine j_iret dX12_crowd_27 rfl ?_
    exact ⟨rfl, rfl⟩
  · refine j_iload2 13 dX12_crowd_12 rfl ?_
    refine j_i2l 14 dX12_crowd_13 rfl ?_
    refine j_lconst 15 (v := 0) dX12_crowd_14 rfl rfl ?_
    refine j_lconst 16 (v := 1) dX12_crowd_15 rfl rfl ?_
    refine j_st3f 19 dX12_crowd_16 rfl rfl cl_X12_47 rfl (c_in m v 0 1) ?_
    refine j_if_ne_bz 28 22 dX12_crowd_19 rfl rfl (fun h19 => ?_) (fun h19 => ?_)
    · exact absurd ⟨h9, h19⟩ c
    · refine j_aload0 23 dX12_crowd_22 rfl ?_
      refine j_iconst 24 (v := 1) dX12_crowd_23 rfl rfl ?_
      refine j_vi1f 27 dX12_crowd_24 rfl rfl cl_X12_126 rfl rfl (c_finds1 m) ?_
      refine j_iret dX12_crowd_27 rfl ?_
      exact ⟨rfl, rfl⟩
set_option maxRecDepth 100000 in
theorem o_crowd (m : Mem) (d : Nat → Int32) (w : WF d) (hT : TR 9 m d) (hP : PR 36 m d) (n : Nat) (v : Int32) (hn : n ≤ 60) (hv : 0 ≤ v ∧ v ≤ 1) : JM l g 6 mX11_crowd [rf g 0, .int (nI n), .int v] m (RS (some (.int (if v = 0 then nI (plN (itD n d) 16) else nI (moN (itD n d) 16)))) (Sm thS m)) := by
  refine JM_of (ls := [some (rf g 0), some (.int (nI n)), some (.int v), none, none, none, none]) pn_X11 rfl rfl ?_
  refine j_iload1 1 dX11_crowd_0 rfl ?_
  refine j_iconst 2 (v := 0) dX11_crowd_1 rfl rfl ?_
  refine j_bipush 4 (v := 60) dX11_crowd_2 rfl rfl ?_
  refine j_st3f 7 dX11_crowd_4 rfl rfl cl_X11_86 rfl (c_within m _ 0 60) ?_
  refine j_if_eq_bz 19 10 dX11_crowd_7 rfl rfl (fun h7 => absurd ((rngN 60 (by decide)).mpr ⟨n, hn, rfl⟩) h7) (fun h7 => ?_)
  refine j_iload2 11 dX11_crowd_10 rfl ?_
  refine j_iconst 12 (v := 0) dX11_crowd_11 rfl rfl ?_
  refine j_iconst 13 (v := 1) dX11_crowd_12 rfl rfl ?_
  refine j_st3f 16 dX11_crowd_13 rfl rfl cl_X11_86 rfl (c_within m _ 0 1) ?_
  refine j_if_ne_bz 26 19 dX11_crowd_16 rfl rfl (fun h16 => ?_) (fun h16 => absurd hv h16)
  refine j_aload0 27 dX11_crowd_26 rfl ?_
  refine j_vi0w 30 dX11_crowd_27 rfl rfl cl_X11_217 rfl rfl (c_think m) (fun m27 q27 => ?_)
  obtain ⟨l0, l1⟩ := LR2 hP (q27.2 39 (by decide)) (q27.2 40 (by decide)) (q27.2 43 (by decide)) (q27.2 44 (by decide))
  refine j_aload0 31 dX11_crowd_30 rfl ?_
  refine j_getR 34 dX11_crowd_31 rfl fl_X11_39 rfl rfl ?_
  refine j_iload1 35 dX11_crowd_34 rfl ?_
  refine j_aload0 36 dX11_crowd_35 rfl ?_
  refine j_getR 39 dX11_crowd_36 rfl fl_X11_48 rfl rfl ?_
  refine j_vi2w 42 dX11_crowd_39 rfl rfl cl_X11_205 rfl rfl (c_goDays_18 m27 d n (by omega) w (q27.1 d hT) l0 l1) (fun m39 q39 => ?_)
  refine j_iconst 43 (v := 0) dX11_crowd_42 rfl rfl ?_
  refine j_istore3 44 dX11_crowd_43 rfl rfl rfl ?_
  refine j_iconst 45 (v := 0) dX11_crowd_44 rfl rfl ?_
  refine j_istore4 47 dX11_crowd_45 rfl rfl rfl ?_
  refine j_iconst 48 (v := 0) dX11_crowd_47 rfl rfl ?_
  refine j_istore5 50 dX11_crowd_48 rfl rfl rfl ?_
  exact lp_crowd (nI n) v m39 (itD n d) (itD_wf n w) q39.1 ⟨rfl, (q27.2.mono (by decide)).trans (q39.2.mono (by decide))⟩ 16 0 none rfl
set_option maxRecDepth 100000 in
theorem p_crowd (m : Mem) (w : WF (m 69)) (hd : nb (m 69 1) 10000) (n : Nat) (v : Int32) (hn : n ≤ 60) (hv : 0 ≤ v ∧ v ≤ 1) : JM l g 7 mX12_crowd [rf g 68, .int (nI n), .int v] m (RS (some (.int (if v = 0 then nI (plN (itD n (m 69)) 16) else nI (moN (itD n (m 69)) 16)))) (MK m)) := by
  refine JM_of (ls := [some (rf g 68), some (.int (nI n)), some (.int v), none, none]) pn_X12 rfl rfl ?_
  have e69 : upR m 71 (rst (m 69) (m 71)) 69 = m 69 := upR_n (by decide)
  refine j_iload1 1 dX12_crowd_0 rfl ?_
  refine j_i2l 2 dX12_crowd_1 rfl ?_
  refine j_lconst 3 (v := 0) dX12_crowd_2 rfl rfl ?_
  refine j_ldc2 6 dX12_crowd_3 rfl kl_X12_212 ?_
  refine j_st3f 9 dX12_crowd_6 rfl rfl cl_X12_47 rfl (c_in m _ 0 60) ?_
  refine j_if_eq_bz 22 12 dX12_crowd_9 rfl rfl (fun h9 => absurd ((rngN 60 (by decide)).mpr ⟨n, hn, rfl⟩) h9) (fun h9 => ?_)
  refine j_iload2 13 dX12_crowd_12 rfl ?_
  refine j_i2l 14 dX12_crowd_13 rfl ?_
  refine j_lconst 15 (v := 0) dX12_crowd_14 rfl rfl ?_
  refine j_lconst 16 (v := 1) dX12_crowd_15 rfl rfl ?_
  refine j_st3f 19 dX12_crowd_16 rfl rfl cl_X12_47 rfl (c_in m _ 0 1) ?_
  refine j_if_ne_bz 28 22 dX12_crowd_19 rfl rfl (fun h19 => ?_) (fun h19 => absurd hv h19)
  refine j_aload0 29 dX12_crowd_28 rfl ?_
  refine j_vi0v 32 dX12_crowd_29 rfl rfl cl_X12_226 rfl rfl (c_keepAside m) ?_
  refine j_aload0 33 dX12_crowd_32 rfl ?_
  refine j_iload1 34 dX12_crowd_33 rfl ?_
  refine j_vi1w 37 dX12_crowd_34 rfl rfl cl_X12_214 rfl rfl (c_daysGo _ n hn (by rw [e69]; exact w) (by rw [e69]; exact nb_up hd (by decide))) (fun m34 q34 => ?_)
  refine j_iconst 38 (v := 0) dX12_crowd_37 rfl rfl ?_
  refine j_istore3 39 dX12_crowd_38 rfl rfl rfl ?_
  refine j_iconst 40 (v := 1) dX12_crowd_39 rfl rfl ?_
  refine j_istore4 42 dX12_crowd_40 rfl rfl rfl ?_
  have hm : m34 69 = itD n (m 69) := by rw [q34.1, e69]
  have w34 : WF (m34 69) := by rw [hm]; exact itD_wf n w
  have wn := w34.n
  have hmk : MK m (upR m34 69 (rst (m34 71) (m34 69))) := ⟨by rw [upR_s, q34.2 71 (by decide), upR_s, hm, rst_it w, rst_rst], ((Sm.rf.row (by decide)).trans (q34.2.mono (by decide))).row (by decide)⟩
  have p1 : plN (m34 69) (0 + 1) = 0 := by show (if moN (m34 69) 0 < cwN (m34 69) 0 then 0 else 0) = 0; split <;> rfl
  have K := lm_crowd (l := l) (g := g) (Q := RS (some (.int (if v = 0 then nI (plN (itD n (m 69)) 16) else nI (moN (itD n (m 69)) 16)))) (MK m)) (nI n) v m34 w34 ?_ 15 0 rfl
  · rw [p1] at K
    exact K
  refine j_iload2 83 dX12_crowd_82 rfl ?_
  refine j_if_ne 90 86 dX12_crowd_83 rfl rfl (fun h83 => ?_) (fun h83 => ?_)
  · refine j_aload0 91 dX12_crowd_90 rfl ?_
    refine j_iload3 92 dX12_crowd_91 rfl ?_
    refine j_vi1f 95 dX12_crowd_92 rfl rfl cl_X12_184 rfl rfl (c_lying m34 _ w34) ?_
    refine j_st1f 98 dX12_crowd_95 rfl rfl cl_X12_246 rfl (c_bitsS m34 _ _ wn.1) ?_
    refine j_istore4 100 dX12_crowd_98 rfl rfl rfl ?_
    refine j_aload0 101 dX12_crowd_100 rfl ?_
    refine j_vi0v 104 dX12_crowd_101 rfl rfl cl_X12_223 rfl rfl (c_putBack _) ?_
    refine j_iload4 106 dX12_crowd_104 rfl ?_
    refine j_iret dX12_crowd_106 rfl ?_
    first | exact ⟨by rw [if_pos h83, hm], hmk⟩ | exact ⟨by rw [if_neg h83, mo_pl _ 15, hm], hmk⟩
  · refine j_iload3 87 dX12_crowd_86 rfl ?_
    refine j_goto 98 dX12_crowd_87 rfl ?_
    refine j_istore4 100 dX12_crowd_98 rfl rfl rfl ?_
    refine j_aload0 101 dX12_crowd_100 rfl ?_
    refine j_vi0v 104 dX12_crowd_101 rfl rfl cl_X12_223 rfl rfl (c_putBack _) ?_
    refine j_iload4 106 dX12_crowd_104 rfl ?_
    refine j_iret dX12_crowd_106 rfl ?_
    first | exact ⟨by rw [if_pos h83, hm], hmk⟩ | exact ⟨by rw [if_neg h83, mo_pl _ 15, hm], hmk⟩
theorem op_crowd {m : Mem} (I : INV m) (n v : Int32) : OPr l g mX11_crowd mX12_crowd [.int n, .int v] m := by
  obtain ⟨⟨wf, hd, hT, hP⟩, -⟩ := id I
  by_cases c : (0 ≤ n ∧ n ≤ 60) ∧ 0 ≤ v ∧ v ≤ 1
  · obtain ⟨i, hi, rfl⟩ := (rngN 60 (by decide)).mp c.1
    refine OPr_ask (d2 := 7) I (by decide) (by decide) (o_crowd m (m 69) wf hT hP i v hi c.2) (fun m' s => ?_)
    have e := dn s
    have hq := p_crowd (l := l) (g := g) m' (by rw [e]; exact wf) (by rw [e]; exact hd) i v hi c.2
    rw [e] at hq
    exact hq
  · exact OPr_err I (by decide) (by decide) (by decide) (e_crowd m n v c) (f_crowd _ n v c)
end O13
