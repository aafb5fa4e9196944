/-! suns, sheet -/
theorem okS_nb {m : Mem} {c i : Nat} (h : okS m c i) : nb (m c i) 10 := by
  obtain ⟨j, j1, j2⟩ := (rngN 9 (by decide)).mp h
  exact ⟨j, by omega, j2⟩
section O23
variable {l : Launch} {g : Gv}
set_option maxRecDepth 100000 in
theorem lp_suns_0 {Q : Option Value → Mem → Prop} (m0 : Mem) (E : Nat) (hE : E ≤ 16) (kk : ∀ i, i ≤ E → (∀ j, j < i → okS m0 61 j) → (i = E ∨ ¬ okS m0 61 i) → Q (some (.int (nI i))) (upR m0 10 (fun j => if j < i then m0 61 j else m0 10 j))) : ∀ (k i : Nat) (o : Option Value), i + k = E → (∀ j, j < i → okS m0 61 j) → J l g 2 mX11_suns 43 [some (rf g 0), some (.int (nI 0)), some (.int (nI E)), some (.int (nI i)), o] [] (upR m0 10 (fun j => if j < i then m0 61 j else m0 10 j)) Q := by
  intro k
  induction k with
  | zero =>
    intro i o e ha
    have e : i = E := by omega
    subst e
    refine j_iload3 44 dX11_suns_43 rfl ?_
    refine j_iload2 45 dX11_suns_44 rfl ?_
    refine j_cmp_ge 88 48 dX11_suns_45 rfl rfl (fun h45 => ?_) (fun h45 => absurd (Int32.le_refl _) h45)
    refine j_iload2 89 dX11_suns_88 rfl ?_
    refine j_iret dX11_suns_89 rfl ?_
    exact kk i (Nat.le_refl _) ha (Or.inl rfl)
  | succ k ih =>
    intro i o e ha
    have e2 : nI i + 1 = nI (i + 1) := nI_1 i
    have r : upR m0 10 (fun j => if j < i then m0 61 j else m0 10 j) 61 i = m0 61 i := congrFun (upR_n (by decide)) i
    refine j_iload3 44 dX11_suns_43 rfl ?_
    refine j_iload2 45 dX11_suns_44 rfl ?_
    refine j_cmp_ge 88 48 dX11_suns_45 rfl rfl (fun h45 => absurd h45 (nI_ge (a := i) (b := E) (by omega) (by omega))) (fun h45 => ?_)
    refine j_aload0 49 dX11_suns_48 rfl ?_
    refine j_getR 52 dX11_suns_49 rfl fl_X11_64 rfl rfl ?_
    refine j_iload1 53 dX11_suns_52 rfl ?_
    refine j_aald 54 0 rfl (by decide) dX11_suns_53 rfl (by decide) ?_
    refine j_ref (b := 61) (by decide) ?_
    refine j_iload3 55 dX11_suns_54 rfl ?_
    refine j_iald 56 _ rfl (show i < 40 by omega) dX11_suns_55 rfl rfl ?_
    refine j_top r ?_
    refine j_istore4 58 dX11_suns_56 rfl rfl rfl ?_
    refine j_iload4 60 dX11_suns_58 rfl ?_
    refine j_iconst 61 (v := 0) dX11_suns_60 rfl rfl ?_
    refine j_bipush 63 (v := 9) dX11_suns_61 rfl rfl ?_
    refine j_st3f 66 dX11_suns_63 rfl rfl cl_X11_86 rfl (c_within _ (m0 61 i) 0 9) ?_
    refine j_if_ne_bz 71 69 dX11_suns_66 rfl rfl (fun h66 => ?_) (fun h66 => ?_)
    · refine j_aload0 72 dX11_suns_71 rfl ?_
      refine j_getR 75 dX11_suns_72 rfl fl_X11_35 rfl rfl ?_
      refine j_getR 78 dX11_suns_75 rfl fl_X11_90 rfl rfl ?_
      refine j_iload3 79 dX11_suns_78 rfl ?_
      refine j_iload4 81 dX11_suns_79 rfl ?_
      refine j_iast 82 _ rfl (show i < 16 by omega) dX11_suns_81 rfl rfl ?_
      refine j_iinc3 85 (1) dX11_suns_82 rfl rfl rfl rfl ?_
      refine j_goto 43 dX11_suns_85 rfl ?_
      rw [e2]
      refine j_mem (upR_nx (f := m0 61) (h := m0 10)) ?_
      exact ih (i + 1) _ (by omega) (fun j hj => by
        by_cases q : j = i
        · rw [q]; exact h66
        · exact ha j (by omega))
    · refine j_iload3 70 dX11_suns_69 rfl ?_
      refine j_iret dX11_suns_70 rfl ?_
      exact kk i (by omega) ha (Or.inr h66)
set_option maxRecDepth 100000 in
theorem lm_suns_0 {Q : Option Value → Mem → Prop} (m0 : Mem) (K : Nat) (hK : m0 78 0 = nI K) (h40 : K ≤ 40) (kk : ∀ i, i ≤ K → i ≤ 16 → (∀ j, j < i → okS m0 79 (40 * 0 + j)) → (i = K ∨ i = 16 ∨ ¬ okS m0 79 (40 * 0 + i)) → Q (some (.int (nI i))) (upR m0 69 (fun j => if 8 ≤ j ∧ j < 8 + i then (fun t => m0 79 (40 * 0 + t)) (j - 8) else m0 69 j))) : ∀ (k i : Nat), i + k = K → i ≤ 16 → (∀ j, j < i → okS m0 79 (40 * 0 + j)) → J l g 2 mX12_suns 30 [some (rf g 68), some (.int (nI 0)), some (.int (nI i))] [] (upR m0 69 (fun j => if 8 ≤ j ∧ j < 8 + i then (fun t => m0 79 (40 * 0 + t)) (j - 8) else m0 69 j)) Q := by
  intro k
  induction k with
  | zero =>
    intro i e hi ha
    have e : i = K := by omega
    have rK : upR m0 69 (fun j => if 8 ≤ j ∧ j < 8 + i then (fun t => m0 79 (40 * 0 + t)) (j - 8) else m0 69 j) 78 0 = nI K := (congrFun (upR_n (by decide)) _).trans hK
    refine j_iload2 31 dX12_suns_30 rfl ?_
    refine j_aload0 32 dX12_suns_31 rfl ?_
    refine j_getR 35 dX12_suns_32 rfl fl_X12_37 rfl rfl ?_
    refine j_iload1 36 dX12_suns_35 rfl ?_
    refine j_iald 37 0 rfl (by decide) dX12_suns_36 rfl rfl ?_
    refine j_top rK ?_
    refine j_cmp_ge 94 40 dX12_suns_37 rfl rfl (fun h37 => ?_) (fun h37 => absurd (by rw [e]; exact Int32.le_refl _) h37)
    refine j_iload2 95 dX12_suns_94 rfl ?_
    refine j_iret dX12_suns_95 rfl ?_
    exact kk i (by omega) hi ha (Or.inl e)
  | succ k ih =>
    intro i e hi ha
    have e2 : nI i + 1 = nI (i + 1) := nI_1 i
    have rK : upR m0 69 (fun j => if 8 ≤ j ∧ j < 8 + i then (fun t => m0 79 (40 * 0 + t)) (j - 8) else m0 69 j) 78 0 = nI K := (congrFun (upR_n (by decide)) _).trans hK
    have r : upR m0 69 (fun j => if 8 ≤ j ∧ j < 8 + i then (fun t => m0 79 (40 * 0 + t)) (j - 8) else m0 69 j) 79 (40 * 0 + i) = m0 79 (40 * 0 + i) := congrFun (upR_n (by decide)) _
    refine j_iload2 31 dX12_suns_30 rfl ?_
    refine j_aload0 32 dX12_suns_31 rfl ?_
    refine j_getR 35 dX12_suns_32 rfl fl_X12_37 rfl rfl ?_
    refine j_iload1 36 dX12_suns_35 rfl ?_
    refine j_iald 37 0 rfl (by decide) dX12_suns_36 rfl rfl ?_
    refine j_top rK ?_
    refine j_cmp_ge 94 40 dX12_suns_37 rfl rfl (fun h37 => absurd h37 (nI_ge (a := i) (b := K) (by omega) (by omega))) (fun h37 => ?_)
    refine j_iload2 41 dX12_suns_40 rfl ?_
    refine j_bipush 43 (v := 16) dX12_suns_41 rfl rfl ?_
    refine j_cmp_ge 94 46 dX12_suns_43 rfl rfl (fun h43 => ?_) (fun h43 => ?_)
    · refine j_iload2 95 dX12_suns_94 rfl ?_
      refine j_iret dX12_suns_95 rfl ?_
      first | exact kk i (by omega) hi ha (Or.inr (Or.inr h65)) | exact kk i (by omega) hi ha (Or.inr (Or.inl (by have := (nI_leI (a := 16) (b := i) (by omega) (by omega)).mp h43; omega)))
    · have hlt : i < 16 := Nat.not_le.mp (fun q => h43 (nI_le (a := 16) (b := i) q (by omega)))
      refine j_aload0 47 dX12_suns_46 rfl ?_
      refine j_getR 50 dX12_suns_47 rfl fl_X12_40 rfl rfl ?_
      refine j_bipush 52 (v := nI 40) dX12_suns_50 rfl rfl ?_
      refine j_iload1 53 dX12_suns_52 rfl ?_
      refine j_imulN 54 dX12_suns_53 rfl ?_
      refine j_iload2 55 dX12_suns_54 rfl ?_
      refine j_iaddN 56 dX12_suns_55 rfl ?_
      refine j_iald 57 (40 * 0 + i) rfl (show 40 * 0 + i < 160 by omega) dX12_suns_56 rfl rfl ?_
      refine j_top r ?_
      refine j_i2l 58 dX12_suns_57 rfl ?_
      refine j_lconst 59 (v := 0) dX12_suns_58 rfl rfl ?_
      refine j_ldc2 62 dX12_suns_59 rfl kl_X12_177 ?_
      refine j_st3f 65 dX12_suns_62 rfl rfl cl_X12_47 rfl (c_in _ (m0 79 (40 * 0 + i)) 0 9) ?_
      refine j_if_eq_bz 94 68 dX12_suns_65 rfl rfl (fun h65 => ?_) (fun h65 => ?_)
      · refine j_iload2 95 dX12_suns_94 rfl ?_
        refine j_iret dX12_suns_95 rfl ?_
        first | exact kk i (by omega) hi ha (Or.inr (Or.inr h65)) | exact kk i (by omega) hi ha (Or.inr (Or.inl (by have := (nI_leI (a := 16) (b := i) (by omega) (by omega)).mp h43; omega)))
      · refine j_aload0 69 dX12_suns_68 rfl ?_
        refine j_getR 72 dX12_suns_69 rfl fl_X12_7 rfl rfl ?_
        refine j_bipush 74 (v := nI 8) dX12_suns_72 rfl rfl ?_
        refine j_iload2 75 dX12_suns_74 rfl ?_
        refine j_iaddN 76 dX12_suns_75 rfl ?_
        refine j_aload0 77 dX12_suns_76 rfl ?_
        refine j_getR 80 dX12_suns_77 rfl fl_X12_40 rfl rfl ?_
        refine j_bipush 82 (v := nI 40) dX12_suns_80 rfl rfl ?_
        refine j_iload1 83 dX12_suns_82 rfl ?_
        refine j_imulN 84 dX12_suns_83 rfl ?_
        refine j_iload2 85 dX12_suns_84 rfl ?_
        refine j_iaddN 86 dX12_suns_85 rfl ?_
        refine j_iald 87 (40 * 0 + i) rfl (show 40 * 0 + i < 160 by omega) dX12_suns_86 rfl rfl ?_
        refine j_top r ?_
        refine j_iast 88 (8 + i) rfl (show 8 + i < 260 by omega) dX12_suns_87 rfl rfl ?_
        refine j_iinc2 91 (1) dX12_suns_88 rfl rfl rfl rfl ?_
        refine j_goto 30 dX12_suns_91 rfl ?_
        rw [e2]
        refine j_mem (upR_nx2 (b0 := 8) (f := fun t => m0 79 (40 * 0 + t)) (h := m0 69)) ?_
        exact ih (i + 1) (by omega) (by omega) (fun j hj => by
          by_cases q : j = i
          · rw [q]; exact h65
          · exact ha j (by omega))
set_option maxRecDepth 100000 in
theorem o_suns_0 {Q : Option Value → Mem → Prop} (m : Mem) (K : Nat) (hb : ¬ m 65 0 = 0) (hK : m 66 0 = nI K) (h40 : K ≤ 40) (kk : ∀ i, i ≤ min K 16 → (∀ j, j < i → okS m 61 j) → (i = min K 16 ∨ ¬ okS m 61 i) → Q (some (.int (nI i))) (upR m 10 (fun j => if j < i then m 61 j else m 10 j))) : JM l g 2 mX11_suns [rf g 0, .int (nI 0)] m (Q) := by
  refine JM_of (ls := [some (rf g 0), some (.int (nI 0)), none, none, none]) pn_X11 rfl rfl ?_
  have em : imin (m 66 0) (nI 16) = nI (min K 16) := by rw [hK]; exact imin_N (by omega) (by omega)
  refine j_iload1 1 dX11_suns_0 rfl ?_
  refine j_st1f 4 dX11_suns_1 rfl rfl cl_X11_230 rfl (c_isSheet m _) ?_
  refine j_if_ne_bz 14 7 dX11_suns_4 rfl rfl (fun h4 => ?_) (fun h4 => absurd (by decide) h4)
  refine j_aload0 15 dX11_suns_14 rfl ?_
  refine j_iload1 16 dX11_suns_15 rfl ?_
  refine j_vi1f 19 dX11_suns_16 rfl rfl cl_X11_233 rfl rfl (c_isMissing m 0 (by decide)) ?_
  refine j_if_eq_bz 29 22 dX11_suns_19 rfl rfl (fun h19 => ?_) (fun h19 => absurd h19 hb)
  refine j_aload0 30 dX11_suns_29 rfl ?_
  refine j_getR 33 dX11_suns_30 rfl fl_X11_71 rfl rfl ?_
  refine j_iload1 34 dX11_suns_33 rfl ?_
  refine j_iald 35 0 rfl (by decide) dX11_suns_34 rfl rfl ?_
  refine j_bipush 37 (v := nI 16) dX11_suns_35 rfl rfl ?_
  refine j_mmin 40 dX11_suns_37 rfl rfl cl_X11_297 rfl ?_
  refine j_top em ?_
  refine j_istore2 41 dX11_suns_40 rfl rfl rfl ?_
  refine j_iconst 42 (v := 0) dX11_suns_41 rfl rfl ?_
  refine j_istore3 43 dX11_suns_42 rfl rfl rfl ?_
  refine j_mem (upR_n0 (c := 10) (f := fun j => if j < 0 then m 61 j else m 10 j) (fun j => if_neg (Nat.not_lt_zero j))).symm ?_
  exact lp_suns_0 m (min K 16) (by omega) kk (min K 16) 0 none (Nat.zero_add _) (fun j hj => absurd hj (Nat.not_lt_zero j))
set_option maxRecDepth 100000 in
theorem p_suns_0 {Q : Option Value → Mem → Prop} (m : Mem) (K : Nat) (hb : ¬ m 77 0 = 0) (hK : m 78 0 = nI K) (h40 : K ≤ 40) (kk : ∀ i, i ≤ K → i ≤ 16 → (∀ j, j < i → okS m 79 (40 * 0 + j)) → (i = K ∨ i = 16 ∨ ¬ okS m 79 (40 * 0 + i)) → Q (some (.int (nI i))) (upR m 69 (fun j => if 8 ≤ j ∧ j < 8 + i then (fun t => m 79 (40 * 0 + t)) (j - 8) else m 69 j))) : JM l g 2 mX12_suns [rf g 68, .int (nI 0)] m (Q) := by
  refine JM_of (ls := [some (rf g 68), some (.int (nI 0)), none]) pn_X12 rfl rfl ?_
  refine j_iload1 1 dX12_suns_0 rfl ?_
  refine j_st1f 4 dX12_suns_1 rfl rfl cl_X12_243 rfl (c_misSheet m _) ?_
  refine j_if_ne_bz 13 7 dX12_suns_4 rfl rfl (fun h4 => ?_) (fun h4 => absurd (by decide) h4)
  refine j_aload0 14 dX12_suns_13 rfl ?_
  refine j_getR 17 dX12_suns_14 rfl fl_X12_34 rfl rfl ?_
  refine j_iload1 18 dX12_suns_17 rfl ?_
  refine j_iald 19 0 rfl (by decide) dX12_suns_18 rfl rfl ?_
  refine j_if_ne 28 22 dX12_suns_19 rfl rfl (fun h19 => ?_) (fun h19 => absurd h19 hb)
  refine j_iconst 29 (v := 0) dX12_suns_28 rfl rfl ?_
  refine j_istore2 30 dX12_suns_29 rfl rfl rfl ?_
  refine j_mem (upR_n0 (c := 69) (f := fun j => if 8 ≤ j ∧ j < 8 + 0 then (fun t => m 79 (40 * 0 + t)) (j - 8) else m 69 j) (fun j => if_neg (by omega))).symm ?_
  exact lm_suns_0 m K hK h40 kk K 0 (Nat.zero_add _) (Nat.zero_le _) (fun j hj => absurd hj (Nat.not_lt_zero j))
set_option maxRecDepth 100000 in
theorem lp_suns_1 {Q : Option Value → Mem → Prop} (m0 : Mem) (E : Nat) (hE : E ≤ 16) (kk : ∀ i, i ≤ E → (∀ j, j < i → okS m0 62 j) → (i = E ∨ ¬ okS m0 62 i) → Q (some (.int (nI i))) (upR m0 10 (fun j => if j < i then m0 62 j else m0 10 j))) : ∀ (k i : Nat) (o : Option Value), i + k = E → (∀ j, j < i → okS m0 62 j) → J l g 2 mX11_suns 43 [some (rf g 0), some (.int (nI 1)), some (.int (nI E)), some (.int (nI i)), o] [] (upR m0 10 (fun j => if j < i then m0 62 j else m0 10 j)) Q := by
  intro k
  induction k with
  | zero =>
    intro i o e ha
    have e : i = E := by omega
    subst e
    refine j_iload3 44 dX11_suns_43 rfl ?_
    refine j_iload2 45 dX11_suns_44 rfl ?_
    refine j_cmp_ge 88 48 dX11_suns_45 rfl rfl (fun h45 => ?_) (fun h45 => absurd (Int32.le_refl _) h45)
    refine j_iload2 89 dX11_suns_88 rfl ?_
    refine j_iret dX11_suns_89 rfl ?_
    exact kk i (Nat.le_refl _) ha (Or.inl rfl)
  | succ k ih =>
    intro i o e ha
    have e2 : nI i + 1 = nI (i + 1) := nI_1 i
    have r : upR m0 10 (fun j => if j < i then m0 62 j else m0 10 j) 62 i = m0 62 i := congrFun (upR_n (by decide)) i
    refine j_iload3 44 dX11_suns_43 rfl ?_
    refine j_iload2 45 dX11_suns_44 rfl ?_
    refine j_cmp_ge 88 48 dX11_suns_45 rfl rfl (fun h45 => absurd h45 (nI_ge (a := i) (b := E) (by omega) (by omega))) (fun h45 => ?_)
    refine j_aload0 49 dX11_suns_48 rfl ?_
    refine j_getR 52 dX11_suns_49 rfl fl_X11_64 rfl rfl ?_
    refine j_iload1 53 dX11_suns_52 rfl ?_
    refine j_aald 54 1 rfl (by decide) dX11_suns_53 rfl (by decide) ?_
    refine j_ref (b := 62) (by decide) ?_
    refine j_iload3 55 dX11_suns_54 rfl ?_
    refine j_iald 56 _ rfl (show i < 40 by omega) dX11_suns_55 rfl rfl ?_
    refine j_top r ?_
    refine j_istore4 58 dX11_suns_56 rfl rfl rfl ?_
    refine j_iload4 60 dX11_suns_58 rfl ?_
    refine j_iconst 61 (v := 0) dX11_suns_60 rfl rfl ?_
    refine j_bipush 63 (v := 9) dX11_suns_61 rfl rfl ?_
    refine j_st3f 66 dX11_suns_63 rfl rfl cl_X11_86 rfl (c_within _ (m0 62 i) 0 9) ?_
    refine j_if_ne_bz 71 69 dX11_suns_66 rfl rfl (fun h66 => ?_) (fun h66 => ?_)
    · refine j_aload0 72 dX11_suns_71 rfl ?_
      refine j_getR 75 dX11_suns_72 rfl fl_X11_35 rfl rfl ?_
      refine j_getR 78 dX11_suns_75 rfl fl_X11_90 rfl rfl ?_
      refine j_iload3 79 dX11_suns_78 rfl ?_
      refine j_iload4 81 dX11_suns_79 rfl ?_
      refine j_iast 82 _ rfl (show i < 16 by omega) dX11_suns_81 rfl rfl ?_
      refine j_iinc3 85 (1) dX11_suns_82 rfl rfl rfl rfl ?_
      refine j_goto 43 dX11_suns_85 rfl ?_
      rw [e2]
      refine j_mem (upR_nx (f := m0 62) (h := m0 10)) ?_
      exact ih (i + 1) _ (by omega) (fun j hj => by
        by_cases q : j = i
        · rw [q]; exact h66
        · exact ha j (by omega))
    · refine j_iload3 70 dX11_suns_69 rfl ?_
      refine j_iret dX11_suns_70 rfl ?_
      exact kk i (by omega) ha (Or.inr h66)
set_option maxRecDepth 100000 in
theorem lm_suns_1 {Q : Option Value → Mem → Prop} (m0 : Mem) (K : Nat) (hK : m0 78 1 = nI K) (h40 : K ≤ 40) (kk : ∀ i, i ≤ K → i ≤ 16 → (∀ j, j < i → okS m0 79 (40 * 1 + j)) → (i = K ∨ i = 16 ∨ ¬ okS m0 79 (40 * 1 + i)) → Q (some (.int (nI i))) (upR m0 69 (fun j => if 8 ≤ j ∧ j < 8 + i then (fun t => m0 79 (40 * 1 + t)) (j - 8) else m0 69 j))) : ∀ (k i : Nat), i + k = K → i ≤ 16 → (∀ j, j < i → okS m0 79 (40 * 1 + j)) → J l g 2 mX12_suns 30 [some (rf g 68), some (.int (nI 1)), some (.int (nI i))] [] (upR m0 69 (fun j => if 8 ≤ j ∧ j < 8 + i then (fun t => m0 79 (40 * 1 + t)) (j - 8) else m0 69 j)) Q := by
  intro k
  induction k with
  | zero =>
    intro i e hi ha
    have e : i = K := by omega
    have rK : upR m0 69 (fun j => if 8 ≤ j ∧ j < 8 + i then (fun t => m0 79 (40 * 1 + t)) (j - 8) else m0 69 j) 78 1 = nI K := (congrFun (upR_n (by decide)) _).trans hK
    refine j_iload2 31 dX12_suns_30 rfl ?_
    refine j_aload0 32 dX12_suns_31 rfl ?_
    refine j_getR 35 dX12_suns_32 rfl fl_X12_37 rfl rfl ?_
    refine j_iload1 36 dX12_suns_35 rfl ?_
    refine j_iald 37 1 rfl (by decide) dX12_suns_36 rfl rfl ?_
    refine j_top rK ?_
    refine j_cmp_ge 94 40 dX12_suns_37 rfl rfl (fun h37 => ?_) (fun h37 => absurd (by rw [e]; exact Int32.le_refl _) h37)
    refine j_iload2 95 dX12_suns_94 rfl ?_
    refine j_iret dX12_suns_95 rfl ?_
    exact kk i (by omega) hi ha (Or.inl e)
  | succ k ih =>
    intro i e hi ha
    have e2 : nI i + 1 = nI (i + 1) := nI_1 i
    have rK : upR m0 69 (fun j => if 8 ≤ j ∧ j < 8 + i then (fun t => m0 79 (40 * 1 + t)) (j - 8) else m0 69 j) 78 1 = nI K := (congrFun (upR_n (by decide)) _).trans hK
    have r : upR m0 69 (fun j => if 8 ≤ j ∧ j < 8 + i then (fun t => m0 79 (40 * 1 + t)) (j - 8) else m0 69 j) 79 (40 * 1 + i) = m0 79 (40 * 1 + i) := congrFun (upR_n (by decide)) _
    refine j_iload2 31 dX12_suns_30 rfl ?_
    refine j_aload0 32 dX12_suns_31 rfl ?_
    refine j_getR 35 dX12_suns_32 rfl fl_X12_37 rfl rfl ?_
    refine j_iload1 36 dX12_suns_35 rfl ?_
    refine j_iald 37 1 rfl (by decide) dX12_suns_36 rfl rfl ?_
    refine j_top rK ?_
    refine j_cmp_ge 94 40 dX12_suns_37 rfl rfl (fun h37 => absurd h37 (nI_ge (a := i) (b := K) (by omega) (by omega))) (fun h37 => ?_)
    refine j_iload2 41 dX12_suns_40 rfl ?_
    refine j_bipush 43 (v := 16) dX12_suns_41 rfl rfl ?_
    refine j_cmp_ge 94 46 dX12_suns_43 rfl rfl (fun h43 => ?_) (fun h43 => ?_)
    · refine j_iload2 95 dX12_suns_94 rfl ?_
      refine j_iret dX12_suns_95 rfl ?_
      first | exact kk i (by omega) hi ha (Or.inr (Or.inr h65)) | exact kk i (by omega) hi ha (Or.inr (Or.inl (by have := (nI_leI (a := 16) (b := i) (by omega) (by omega)).mp h43; omega)))
    · have hlt : i < 16 := Nat.not_le.mp (fun q => h43 (nI_le (a := 16) (b := i) q (by omega)))
      refine j_aload0 47 dX12_suns_46 rfl ?_
      refine j_getR 50 dX12_suns_47 rfl fl_X12_40 rfl rfl ?_
      refine j_bipush 52 (v := nI 40) dX12_suns_50 rfl rfl ?_
      refine j_iload1 53 dX12_suns_52 rfl ?_
      refine j_imulN 54 dX12_suns_53 rfl ?_
      refine j_iload2 55 dX12_suns_54 rfl ?_
      refine j_iaddN 56 dX12_suns_55 rfl ?_
      refine j_iald 57 (40 * 1 + i) rfl (show 40 * 1 + i < 160 by omega) dX12_suns_56 rfl rfl ?_
      refine j_top r ?_
      refine j_i2l 58 dX12_suns_57 rfl ?_
      refine j_lconst 59 (v := 0) dX12_suns_58 rfl rfl ?_
      refine j_ldc2 62 dX12_suns_59 rfl kl_X12_177 ?_
      refine j_st3f 65 dX12_suns_62 rfl rfl cl_X12_47 rfl (c_in _ (m0 79 (40 * 1 + i)) 0 9) ?_
      refine j_if_eq_bz 94 68 dX12_suns_65 rfl rfl (fun h65 => ?_) (fun h65 => ?_)
      · refine j_iload2 95 dX12_suns_94 rfl ?_
        refine j_iret dX12_suns_95 rfl ?_
        first | exact kk i (by omega) hi ha (Or.inr (Or.inr h65)) | exact kk i (by omega) hi ha (Or.inr (Or.inl (by have := (nI_leI (a := 16) (b := i) (by omega) (by omega)).mp h43; omega)))
      · refine j_aload0 69 dX12_suns_68 rfl ?_
        refine j_getR 72 dX12_suns_69 rfl fl_X12_7 rfl rfl ?_
        refine j_bipush 74 (v := nI 8) dX12_suns_72 rfl rfl ?_
        refine j_iload2 75 dX12_suns_74 rfl ?_
        refine j_iaddN 76 dX12_suns_75 rfl ?_
        refine j_aload0 77 dX12_suns_76 rfl ?_
        refine j_getR 80 dX12_suns_77 rfl fl_X12_40 rfl rfl ?_
        refine j_bipush 82 (v := nI 40) dX12_suns_80 rfl rfl ?_
        refine j_iload1 83 dX12_suns_82 rfl ?_
        refine j_imulN 84 dX12_suns_83 rfl ?_
        refine j_iload2 85 dX12_suns_84 rfl ?_
        refine j_iaddN 86 dX12_suns_85 rfl ?_
        refine j_iald 87 (40 * 1 + i) rfl (show 40 * 1 + i < 160 by omega) dX12_suns_86 rfl rfl ?_
        refine j_top r ?_
        refine j_iast 88 (8 + i) rfl (show 8 + i < 260 by omega) dX12_suns_87 rfl rfl ?_
        refine j_iinc2 91 (1) dX12_suns_88 rfl rfl rfl rfl ?_
        refine j_goto 30 dX12_suns_91 rfl ?_
        rw [e2]
        refine j_mem (upR_nx2 (b0 := 8) (f := fun t => m0 79 (40 * 1 + t)) (h := m0 69)) ?_
        exact ih (i + 1) (by omega) (by omega) (fun j hj => by
          by_cases q : j = i
          · rw [q]; exact h65
          · exact ha j (by omega))
set_option maxRecDepth 100000 in
theorem o_suns_1 {Q : Option Value → Mem → Prop} (m : Mem) (K : Nat) (hb : ¬ m 65 1 = 0) (hK : m 66 1 = nI K) (h40 : K ≤ 40) (kk : ∀ i, i ≤ min K 16 → (∀ j, j < i → okS m 62 j) → (i = min K 16 ∨ ¬ okS m 62 i) → Q (some (.int (nI i))) (upR m 10 (fun j => if j < i then m 62 j else m 10 j))) : JM l g 2 mX11_suns [rf g 0, .int (nI 1)] m (Q) := by
  refine JM_of (ls := [some (rf g 0), some (.int (nI 1)), none, none, none]) pn_X11 rfl rfl ?_
  have em : imin (m 66 1) (nI 16) = nI (min K 16) := by rw [hK]; exact imin_N (by omega) (by omega)
  refine j_iload1 1 dX11_suns_0 rfl ?_
  refine j_st1f 4 dX11_suns_1 rfl rfl cl_X11_230 rfl (c_isSheet m _) ?_
  refine j_if_ne_bz 14 7 dX11_suns_4 rfl rfl (fun h4 => ?_) (fun h4 => absurd (by decide) h4)
  refine j_aload0 15 dX11_suns_14 rfl ?_
  refine j_iload1 16 dX11_suns_15 rfl ?_
  refine j_vi1f 19 dX11_suns_16 rfl rfl cl_X11_233 rfl rfl (c_isMissing m 1 (by decide)) ?_
  refine j_if_eq_bz 29 22 dX11_suns_19 rfl rfl (fun h19 => ?_) (fun h19 => absurd h19 hb)
  refine j_aload0 30 dX11_suns_29 rfl ?_
  refine j_getR 33 dX11_suns_30 rfl fl_X11_71 rfl rfl ?_
  refine j_iload1 34 dX11_suns_33 rfl ?_
  refine j_iald 35 1 rfl (by decide) dX11_suns_34 rfl rfl ?_
  refine j_bipush 37 (v := nI 16) dX11_suns_35 rfl rfl ?_
  refine j_mmin 40 dX11_suns_37 rfl rfl cl_X11_297 rfl ?_
  refine j_top em ?_
  refine j_istore2 41 dX11_suns_40 rfl rfl rfl ?_
  refine j_iconst 42 (v := 0) dX11_suns_41 rfl rfl ?_
  refine j_istore3 43 dX11_suns_42 rfl rfl rfl ?_
  refine j_mem (upR_n0 (c := 10) (f := fun j => if j < 0 then m 62 j else m 10 j) (fun j => if_neg (Nat.not_lt_zero j))).symm ?_
  exact lp_suns_1 m (min K 16) (by omega) kk (min K 16) 0 none (Nat.zero_add _) (fun j hj => absurd hj (Nat.not_lt_zero j))
set_option maxRecDepth 100000 in
theorem p_suns_1 {Q : Option Value → Mem → Prop} (m : Mem) (K : Nat) (hb : ¬ m 77 1 = 0) (hK : m 78 1 = nI K) (h40 : K ≤ 40) (kk : ∀ i, i ≤ K → i ≤ 16 → (∀ j, j < i → okS m 79 (40 * 1 + j)) → (i = K ∨ i = 16 ∨ ¬ okS m 79 (40 * 1 + i)) → Q (some (.int (nI i))) (upR m 69 (fun j => if 8 ≤ j ∧ j < 8 + i then (fun t => m 79 (40 * 1 + t)) (j - 8) else m 69 j))) : JM l g 2 mX12_suns [rf g 68, .int (nI 1)] m (Q) := by
  refine JM_of (ls := [some (rf g 68), some (.int (nI 1)), none]) pn_X12 rfl rfl ?_
  refine j_iload1 1 dX12_suns_0 rfl ?_
  refine j_st1f 4 dX12_suns_1 rfl rfl cl_X12_243 rfl (c_misSheet m _) ?_
  refine j_if_ne_bz 13 7 dX12_suns_4 rfl rfl (fun h4 => ?_) (fun h4 => absurd (by decide) h4)
  refine j_aload0 14 dX12_suns_13 rfl ?_
  refine j_getR 17 dX12_suns_14 rfl fl_X12_34 rfl rfl ?_
  refine j_iload1 18 dX12_suns_17 rfl ?_
  refine j_iald 19 1 rfl (by decide) dX12_suns_18 rfl rfl ?_
  refine j_if_ne 28 22 dX12_suns_19 rfl rfl (fun h19 => ?_) (fun h19 => absurd h19 hb)
  refine j_iconst 29 (v := 0) dX12_suns_28 rfl rfl ?_
  refine j_istore2 30 dX12_suns_29 rfl rfl rfl ?_
  refine j_mem (upR_n0 (c := 69) (f := fun j => if 8 ≤ j ∧ j < 8 + 0 then (fun t => m 79 (40 * 1 + t)) (j - 8) else m 69 j) (fun j => if_neg (by omega))).symm ?_
  exact lm_suns_1 m K hK h40 kk K 0 (Nat.zero_add _) (Nat.zero_le _) (fun j hj => absurd hj (Nat.not_lt_zero j))
set_option maxRecDepth 100000 in
theorem lp_suns_2 {Q : Option Value → Mem → Prop} (m0 : Mem) (E : Nat) (hE : E ≤ 16) (kk : ∀ i, i ≤ E → (∀ j, j < i → okS m0 63 j) → (i = E ∨ ¬ okS m0 63 i) → Q (some (.int (nI i))) (upR m0 10 (fun j => if j < i then m0 63 j else m0 10 j))) : ∀ (k i : Nat) (o : Option Value), i + k = E → (∀ j, j < i → okS m0 63 j) → J l g 2 mX11_suns 43 [some (rf g 0), some (.int (nI 2)), some (.int (nI E)), some (.int (nI i)), o] [] (upR m0 10 (fun j => if j < i then m0 63 j else m0 10 j)) Q := by
  intro k
  induction k with
  | zero =>
    intro i o e ha
    have e : i = E := by omega
    subst e
    refine j_iload3 44 dX11_suns_43 rfl ?_
    refine j_iload2 45 dX11_suns_44 rfl ?_
    refine j_cmp_ge 88 48 dX11_suns_45 rfl rfl (fun h45 => ?_) (fun h45 => absurd (Int32.le_refl _) h45)
    refine j_iload2 89 dX11_suns_88 rfl ?_
    refine j_iret dX11_suns_89 rfl ?_
    exact kk i (Nat.le_refl _) ha (Or.inl rfl)
  | succ k ih =>
    intro i o e ha
    have e2 : nI i + 1 = nI (i + 1) := nI_1 i
    have r : upR m0 10 (fun j => if j < i then m0 63 j else m0 10 j) 63 i = m0 63 i := congrFun (upR_n (by decide)) i
    refine j_iload3 44 dX11_suns_43 rfl ?_
    refine j_iload2 45 dX11_suns_44 rfl ?_
    refine j_cmp_ge 88 48 dX11_suns_45 rfl rfl (fun h45 => absurd h45 (nI_ge (a := i) (b := E) (by omega) (by omega))) (fun h45 => ?_)
    refine j_aload0 49 dX11_suns_48 rfl ?_
    refine j_getR 52 dX11_suns_49 rfl fl_X11_64 rfl rfl ?_
    refine j_iload1 53 dX11_suns_52 rfl ?_
    refine j_aald 54 2 rfl (by decide) dX11_suns_53 rfl (by decide) ?_
    refine j_ref (b := 63) (by decide) ?_
    refine j_iload3 55 dX11_suns_54 rfl ?_
    refine j_iald 56 _ rfl (show i < 40 by omega) dX11_suns_55 rfl rfl ?_
    refine j_top r ?_
    refine j_istore4 58 dX11_suns_56 rfl rfl rfl ?_
    refine j_iload4 60 dX11_suns_58 rfl ?_
    refine j_iconst 61 (v := 0) dX11_suns_60 rfl rfl ?_
    refine j_bipush 63 (v := 9) dX11_suns_61 rfl rfl ?_
    refine j_st3f 66 dX11_suns_63 rfl rfl cl_X11_86 rfl (c_within _ (m0 63 i) 0 9) ?_
    refine j_if_ne_bz 71 69 dX11_suns_66 rfl rfl (fun h66 => ?_) (fun h66 => ?_)
    · refine j_aload0 72 dX11_suns_71 rfl ?_
      refine j_getR 75 dX11_suns_72 rfl fl_X11_35 rfl rfl ?_
      refine j_getR 78 dX11_suns_75 rfl fl_X11_90 rfl rfl ?_
      refine j_iload3 79 dX11_suns_78 rfl ?_
      refine j_iload4 81 dX11_suns_79 rfl ?_
      refine j_iast 82 _ rfl (show i < 16 by omega) dX11_suns_81 rfl rfl ?_
      refine j_iinc3 85 (1) dX11_suns_82 rfl rfl rfl rfl ?_
      refine j_goto 43 dX11_suns_85 rfl ?_
      rw [e2]
      refine j_mem (upR_nx (f := m0 63) (h := m0 10)) ?_
      exact ih (i + 1) _ (by omega) (fun j hj => by
        by_cases q : j = i
        · rw [q]; exact h66
        · exact ha j (by omega))
    · refine j_iload3 70 dX11_suns_69 rfl ?_
      refine j_iret dX11_suns_70 rfl ?_
      exact kk i (by omega) ha (Or.inr h66)
set_option maxRecDepth 100000 in
theorem lm_suns_2 {Q : Option Value → Mem → Prop} (m0 : Mem) (K : Nat) (hK : m0 78 2 = nI K) (h40 : K ≤ 40) (kk : ∀ i, i ≤ K → i ≤ 16 → (∀ j, j < i → okS m0 79 (40 * 2 + j)) → (i = K ∨ i = 16 ∨ ¬ okS m0 79 (40 * 2 + i)) → Q (some (.int (nI i))) (upR m0 69 (fun j => if 8 ≤ j ∧ j < 8 + i then (fun t => m0 79 (40 * 2 + t)) (j - 8) else m0 69 j))) : ∀ (k i : Nat), i + k = K → i ≤ 16 → (∀ j, j < i → okS m0 79 (40 * 2 + j)) → J l g 2 mX12_suns 30 [some (rf g 68), some (.int (nI 2)), some (.int (nI i))] [] (upR m0 69 (fun j => if 8 ≤ j ∧ j < 8 + i then (fun t => m0 79 (40 * 2 + t)) (j - 8) else m0 69 j)) Q := by
  intro k
  induction k with
  | zero =>
    intro i e hi ha
    have e : i = K := by omega
    have rK : upR m0 69 (fun j => if 8 ≤ j ∧ j < 8 + i then (fun t => m0 79 (40 * 2 + t)) (j - 8) else m0 69 j) 78 2 = nI K := (congrFun (upR_n (by decide)) _).trans hK
    refine j_iload2 31 dX12_suns_30 rfl ?_
    refine j_aload0 32 dX12_suns_31 rfl ?_
    refine j_getR 35 dX12_suns_32 rfl fl_X12_37 rfl rfl ?_
    refine j_iload1 36 dX12_suns_35 rfl ?_
    refine j_iald 37 2 rfl (by decide) dX12_suns_36 rfl rfl ?_
    refine j_top rK ?_
    refine j_cmp_ge 94 40 dX12_suns_37 rfl rfl (fun h37 => ?_) (fun h37 => absurd (by rw [e]; exact Int32.le_refl _) h37)
    refine j_iload2 95 dX12_suns_94 rfl ?_
    refine j_iret dX12_suns_95 rfl ?_
    exact kk i (by omega) hi ha (Or.inl e)
  | succ k ih =>
    intro i e hi ha
    have e2 : nI i + 1 = nI (i + 1) := nI_1 i
    have rK : upR m0 69 (fun j => if 8 ≤ j ∧ j < 8 + i then (fun t => m0 79 (40 * 2 + t)) (j - 8) else m0 69 j) 78 2 = nI K := (congrFun (upR_n (by decide)) _).trans hK
    have r : upR m0 69 (fun j => if 8 ≤ j ∧ j < 8 + i then (fun t => m0 79 (40 * 2 + t)) (j - 8) else m0 69 j) 79 (40 * 2 + i) = m0 79 (40 * 2 + i) := congrFun (upR_n (by decide)) _
    refine j_iload2 31 dX12_suns_30 rfl ?_
    refine j_aload0 32 dX12_suns_31 rfl ?_
    refine j_getR 35 dX12_suns_32 rfl fl_X12_37 rfl rfl ?_
    refine j_iload1 36 dX12_suns_35 rfl ?_
    refine j_iald 37 2 rfl (by decide) dX12_suns_36 rfl rfl ?_
    refine j_top rK ?_
    refine j_cmp_ge 94 40 dX12_suns_37 rfl rfl (fun h37 => absurd h37 (nI_ge (a := i) (b := K) (by omega) (by omega))) (fun h37 => ?_)
    refine j_iload2 41 dX12_suns_40 rfl ?_
    refine j_bipush 43 (v := 16) dX12_suns_41 rfl rfl ?_
    refine j_cmp_ge 94 46 dX12_suns_43 rfl rfl (fun h43 => ?_) (fun h43 => ?_)
    · refine j_iload2 95 dX12_suns_94 rfl ?_
      refine j_iret dX12_suns_95 rfl ?_
      first | exact kk i (by omega) hi ha (Or.inr (Or.inr h65)) | exact kk i (by omega) hi ha (Or.inr (Or.inl (by have := (nI_leI (a := 16) (b := i) (by omega) (by omega)).mp h43; omega)))
    · have hlt : i < 16 := Nat.not_le.mp (fun q => h43 (nI_le (a := 16) (b := i) q (by omega)))
      refine j_aload0 47 dX12_suns_46 rfl ?_
      refine j_getR 50 dX12_suns_47 rfl fl_X12_40 rfl rfl ?_
      refine j_bipush 52 (v := nI 40) dX12_suns_50 rfl rfl ?_
      refine j_iload1 53 dX12_suns_52 rfl ?_
      refine j_imulN 54 dX12_suns_53 rfl ?_
      refine j_iload2 55 dX12_suns_54 rfl ?_
      refine j_iaddN 56 dX12_suns_55 rfl ?_
      refine j_iald 57 (40 * 2 + i) rfl (show 40 * 2 + i < 160 by omega) dX12_suns_56 rfl rfl ?_
      refine j_top r ?_
      refine j_i2l 58 dX12_suns_57 rfl ?_
      refine j_lconst 59 (v := 0) dX12_suns_58 rfl rfl ?_
      refine j_ldc2 62 dX12_suns_59 rfl kl_X12_177 ?_
      refine j_st3f 65 dX12_suns_62 rfl rfl cl_X12_47 rfl (c_in _ (m0 79 (40 * 2 + i)) 0 9) ?_
      refine j_if_eq_bz 94 68 dX12_suns_65 rfl rfl (fun h65 => ?_) (fun h65 => ?_)
      · refine j_iload2 95 dX12_suns_94 rfl ?_
        refine j_iret dX12_suns_95 rfl ?_
        first | exact kk i (by omega) hi ha (Or.inr (Or.inr h65)) | exact kk i (by omega) hi ha (Or.inr (Or.inl (by have := (nI_leI (a := 16) (b := i) (by omega) (by omega)).mp h43; omega)))
      · refine j_aload0 69 dX12_suns_68 rfl ?_
        refine j_getR 72 dX12_suns_69 rfl fl_X12_7 rfl rfl ?_
        refine j_bipush 74 (v := nI 8) dX12_suns_72 rfl rfl ?_
        refine j_iload2 75 dX12_suns_74 rfl ?_
        refine j_iaddN 76 dX12_suns_75 rfl ?_
        refine j_aload0 77 dX12_suns_76 rfl ?_
        refine j_getR 80 dX12_suns_77 rfl fl_X12_40 rfl rfl ?_
        refine j_bipush 82 (v := nI 40) dX12_suns_80 rfl rfl ?_
        refine j_iload1 83 dX12_suns_82 rfl ?_
        refine j_imulN 84 dX12_suns_83 rfl ?_
        refine j_iload2 85 dX12_suns_84 rfl ?_
        refine j_iaddN 86 dX12_suns_85 rfl ?_
        refine j_iald 87 (40 * 2 + i) rfl (show 40 * 2 + i < 160 by omega) dX12_suns_86 rfl rfl ?_
        refine j_top r ?_
        refine j_iast 88 (8 + i) rfl (show 8 + i < 260 by omega) dX12_suns_87 rfl rfl ?_
        refine j_iinc2 91 (1) dX12_suns_88 rfl rfl rfl rfl ?_
        refine j_goto 30 dX12_suns_91 rfl ?_
        rw [e2]
        refine j_mem (upR_nx2 (b0 := 8) (f := fun t => m0 79 (40 * 2 + t)) (h := m0 69)) ?_
        exact ih (i + 1) (by omega) (by omega) (fun j hj => by
          by_cases q : j = i
          · rw [q]; exact h65
          · exact ha j (by omega))
set_option maxRecDepth 100000 in
theorem o_suns_2 {Q : Option Value → Mem → Prop} (m : Mem) (K : Nat) (hb : ¬ m 65 2 = 0) (hK : m 66 2 = nI K) (h40 : K ≤ 40) (kk : ∀ i, i ≤ min K 16 → (∀ j, j < i → okS m 63 j) → (i = min K 16 ∨ ¬ okS m 63 i) → Q (some (.int (nI i))) (upR m 10 (fun j => if j < i then m 63 j else m 10 j))) : JM l g 2 mX11_suns [rf g 0, .int (nI 2)] m (Q) := by
  refine JM_of (ls := [some (rf g 0), some (.int (nI 2)), none, none, none]) pn_X11 rfl rfl ?_
  have em : imin (m 66 2) (nI 16) = nI (min K 16) := by rw [hK]; exact imin_N (by omega) (by omega)
  refine j_iload1 1 dX11_suns_0 rfl ?_
  refine j_st1f 4 dX11_suns_1 rfl rfl cl_X11_230 rfl (c_isSheet m _) ?_
  refine j_if_ne_bz 14 7 dX11_suns_4 rfl rfl (fun h4 => ?_) (fun h4 => absurd (by decide) h4)
  refine j_aload0 15 dX11_suns_14 rfl ?_
  refine j_iload1 16 dX11_suns_15 rfl ?_
  refine j_vi1f 19 dX11_suns_16 rfl rfl cl_X11_233 rfl rfl (c_isMissing m 2 (by decide)) ?_
  refine j_if_eq_bz 29 22 dX11_suns_19 rfl rfl (fun h19 => ?_) (fun h19 => absurd h19 hb)
  refine j_aload0 30 dX11_suns_29 rfl ?_
  refine j_getR 33 dX11_suns_30 rfl fl_X11_71 rfl rfl ?_
  refine j_iload1 34 dX11_suns_33 rfl ?_
  refine j_iald 35 2 rfl (by decide) dX11_suns_34 rfl rfl ?_
  refine j_bipush 37 (v := nI 16) dX11_suns_35 rfl rfl ?_
  refine j_mmin 40 dX11_suns_37 rfl rfl cl_X11_297 rfl ?_
  refine j_top em ?_
  refine j_istore2 41 dX11_suns_40 rfl rfl rfl ?_
  refine j_iconst 42 (v := 0) dX11_suns_41 rfl rfl ?_
  refine j_istore3 43 dX11_suns_42 rfl rfl rfl ?_
  refine j_mem (upR_n0 (c := 10) (f := fun j => if j < 0 then m 63 j else m 10 j) (fun j => if_neg (Nat.not_lt_zero j))).symm ?_
  exact lp_suns_2 m (min K 16) (by omega) kk (min K 16) 0 none (Nat.zero_add _) (fun j hj => absurd hj (Nat.not_lt_zero j))
set_option maxRecDepth 100000 in
theorem p_suns_2 {Q : Option Value → Mem → Prop} (m : Mem) (K : Nat) (hb : ¬ m 77 2 = 0) (hK : m 78 2 = nI K) (h40 : K ≤ 40) (kk : ∀ i, i ≤ K → i ≤ 16 → (∀ j, j < i → okS m 79 (40 * 2 + j)) → (i = K ∨ i = 16 ∨ ¬ okS m 79 (40 * 2 + i)) → Q (some (.int (nI i))) (upR m 69 (fun j => if 8 ≤ j ∧ j < 8 + i then (fun t => m 79 (40 * 2 + t)) (j - 8) else m 69 j))) : JM l g 2 mX12_suns [rf g 68, .int (nI 2)] m (Q) := by
  refine JM_of (ls := [some (rf g 68), some (.int (nI 2)), none]) pn_X12 rfl rfl ?_
  refine j_iload1 1 dX12_suns_0 rfl ?_
  refine j_st1f 4 dX12_suns_1 rfl rfl cl_X12_243 rfl (c_misSheet m _) ?_
  refine j_if_ne_bz 13 7 dX12_suns_4 rfl rfl (fun h4 => ?_) (fun h4 => absurd (by decide) h4)
  refine j_aload0 14 dX12_suns_13 rfl ?_
  refine j_getR 17 dX12_suns_14 rfl fl_X12_34 rfl rfl ?_
  refine j_iload1 18 dX12_suns_17 rfl ?_
  refine j_iald 19 2 rfl (by decide) dX12_suns_18 rfl rfl ?_
  refine j_if_ne 28 22 dX12_suns_19 rfl rfl (fun h19 => ?_) (fun h19 => absurd h19 hb)
  refine j_iconst 29 (v := 0) dX12_suns_28 rfl rfl ?_
  refine j_istore2 30 dX12_suns_29 rfl rfl rfl ?_
  refine j_mem (upR_n0 (c := 69) (f := fun j => if 8 ≤ j ∧ j < 8 + 0 then (fun t => m 79 (40 * 2 + t)) (j - 8) else m 69 j) (fun j => if_neg (by omega))).symm ?_
  exact lm_suns_2 m K hK h40 kk K 0 (Nat.zero_add _) (Nat.zero_le _) (fun j hj => absurd hj (Nat.not_lt_zero j))
set_option maxRecDepth 100000 in
theorem lp_suns_3 {Q : Option Value → Mem → Prop} (m0 : Mem) (E : Nat) (hE : E ≤ 16) (kk : ∀ i, i ≤ E → (∀ j, j < i → okS m0 64 j) → (i = E ∨ ¬ okS m0 64 i) → Q (some (.int (nI i))) (upR m0 10 (fun j => if j < i then m0 64 j else m0 10 j))) : ∀ (k i : Nat) (o : Option Value), i + k = E → (∀ j, j < i → okS m0 64 j) → J l g 2 mX11_suns 43 [some (rf g 0), some (.int (nI 3)), some (.int (nI E)), some (.int (nI i)), o] [] (upR m0 10 (fun j => if j < i then m0 64 j else m0 10 j)) Q := by
  intro k
  induction k with
  | zero =>
    intro i o e ha
    have e : i = E := by omega
    subst e
    refine j_iload3 44 dX11_suns_43 rfl ?_
    refine j_iload2 45 dX11_suns_44 rfl ?_
    refine j_cmp_ge 88 48 dX11_suns_45 rfl rfl (fun h45 => ?_) (fun h45 => absurd (Int32.le_refl _) h45)
    refine j_iload2 89 dX11_suns_88 rfl ?_
    refine j_iret dX11_suns_89 rfl ?_
    exact kk i (Nat.le_refl _) ha (Or.inl rfl)
  | succ k ih =>
    intro i o e ha
    have e2 : nI i + 1 = nI (i + 1) := nI_1 i
    have r : upR m0 10 (fun j => if j < i then m0 64 j else m0 10 j) 64 i = m0 64 i := congrFun (upR_n (by decide)) i
    refine j_iload3 44 dX11_suns_43 rfl ?_
    refine j_iload2 45 dX11_suns_44 rfl ?_
    refine j_cmp_ge 88 48 dX11_suns_45 rfl rfl (fun h45 => absurd h45 (nI_ge (a := i) (b := E) (by omega) (by omega))) (fun h45 => ?_)
    refine j_aload0 49 dX11_suns_48 rfl ?_
    refine j_getR 52 dX11_suns_49 rfl fl_X11_64 rfl rfl ?_
    refine j_iload1 53 dX11_suns_52 rfl ?_
    refine j_aald 54 3 rfl (by decide) dX11_suns_53 rfl (by decide) ?_
    refine j_ref (b := 64) (by decide) ?_
    refine j_iload3 55 dX11_suns_54 rfl ?_
    refine j_iald 56 _ rfl (show i < 40 by omega) dX11_suns_55 rfl rfl ?_
    refine j_top r ?_
    refine j_istore4 58 dX11_suns_56 rfl rfl rfl ?_
    refine j_iload4 60 dX11_suns_58 rfl ?_
    refine j_iconst 61 (v := 0) dX11_suns_60 rfl rfl ?_
    refine j_bipush 63 (v := 9) dX11_suns_61 rfl rfl ?_
    refine j_st3f 66 dX11_suns_63 rfl rfl cl_X11_86 rfl (c_within _ (m0 64 i) 0 9) ?_
    refine j_if_ne_bz 71 69 dX11_suns_66 rfl rfl (fun h66 => ?_) (fun h66 => ?_)
    · refine j_aload0 72 dX11_suns_71 rfl ?_
      refine j_getR 75 dX11_suns_72 rfl fl_X11_35 rfl rfl ?_
      refine j_getR 78 dX11_suns_75 rfl fl_X11_90 rfl rfl ?_
      refine j_iload3 79 dX11_suns_78 rfl ?_
      refine j_iload4 81 dX11_suns_79 rfl ?_
      refine j_iast 82 _ rfl (show i < 16 by omega) dX11_suns_81 rfl rfl ?_
      refine j_iinc3 85 (1) dX11_suns_82 rfl rfl rfl rfl ?_
      refine j_goto 43 dX11_suns_85 rfl ?_
      rw [e2]
      refine j_mem (upR_nx (f := m0 64) (h := m0 10)) ?_
      exact ih (i + 1) _ (by omega) (fun j hj => by
        by_cases q : j = i
        · rw [q]; exact h66
        · exact ha j (by omega))
    · refine j_iload3 70 dX11_suns_69 rfl ?_
      refine j_iret dX11_suns_70 rfl ?_
      exact kk i (by omega) ha (Or.inr h66)
set_option maxRecDepth 100000 in
theorem lm_suns_3 {Q : Option Value → Mem → Prop} (m0 : Mem) (K : Nat) (hK : m0 78 3 = nI K) (h40 : K ≤ 40) (kk : ∀ i, i ≤ K → i ≤ 16 → (∀ j, j < i → okS m0 79 (40 * 3 + j)) → (i = K ∨ i = 16 ∨ ¬ okS m0 79 (40 * 3 + i)) → Q (some (.int (nI i))) (upR m0 69 (fun j => if 8 ≤ j ∧ j < 8 + i then (fun t => m0 79 (40 * 3 + t)) (j - 8) else m0 69 j))) : ∀ (k i : Nat), i + k = K → i ≤ 16 → (∀ j, j < i → okS m0 79 (40 * 3 + j)) → J l g 2 mX12_suns 30 [some (rf g 68), some (.int (nI 3)), some (.int (nI i))] [] (upR m0 69 (fun j => if 8 ≤ j ∧ j < 8 + i then (fun t => m0 79 (40 * 3 + t)) (j - 8) else m0 69 j)) Q := by
  intro k
  induction k with
  | zero =>
    intro i e hi ha
    have e : i = K := by omega
    have rK : upR m0 69 (fun j => if 8 ≤ j ∧ j < 8 + i then (fun t => m0 79 (40 * 3 + t)) (j - 8) else m0 69 j) 78 3 = nI K := (congrFun (upR_n (by decide)) _).trans hK
    refine j_iload2 31 dX12_suns_30 rfl ?_
    refine j_aload0 32 dX12_suns_31 rfl ?_
    refine j_getR 35 dX12_suns_32 rfl fl_X12_37 rfl rfl ?_
    refine j_iload1 36 dX12_suns_35 rfl ?_
    refine j_iald 37 3 rfl (by decide) dX12_suns_36 rfl rfl ?_
    refine j_top rK ?_
    refine j_cmp_ge 94 40 dX12_suns_37 rfl rfl (fun h37 => ?_) (fun h37 => absurd (by rw [e]; exact Int32.le_refl _) h37)
    refine j_iload2 95 dX12_suns_94 rfl ?_
    refine j_iret dX12_suns_95 rfl ?_
    exact kk i (by omega) hi ha (Or.inl e)
  | succ k ih =>
    intro i e hi ha
    have e2 : nI i + 1 = nI (i + 1) := nI_1 i
    have rK : upR m0 69 (fun j => if 8 ≤ j ∧ j < 8 + i then (fun t => m0 79 (40 * 3 + t)) (j - 8) else m0 69 j) 78 3 = nI K := (congrFun (upR_n (by decide)) _).trans hK
    have r : upR m0 69 (fun j => if 8 ≤ j ∧ j < 8 + i then (fun t => m0 79 (40 * 3 + t)) (j - 8) else m0 69 j) 79 (40 * 3 + i) = m0 79 (40 * 3 + i) := congrFun (upR_n (by decide)) _
    refine j_iload2 31 dX12_suns_30 rfl ?_
    refine j_aload0 32 dX12_suns_31 rfl ?_
    refine j_getR 35 dX12_suns_32 rfl fl_X12_37 rfl rfl ?_
    refine j_iload1 36 dX12_suns_35 rfl ?_
    refine j_iald 37 3 rfl (by decide) dX12_suns_36 rfl rfl ?_
    refine j_top rK ?_
    refine j_cmp_ge 94 40 dX12_suns_37 rfl rfl (fun h37 => absurd h37 (nI_ge (a := i) (b := K) (by omega) (by omega))) (fun h37 => ?_)
    refine j_iload2 41 dX12_suns_40 rfl ?_
    refine j_bipush 43 (v := 16) dX12_suns_41 rfl rfl ?_
    refine j_cmp_ge 94 46 dX12_suns_43 rfl rfl (fun h43 => ?_) (fun h43 => ?_)
    · refine j_iload2 95 dX12_suns_94 rfl ?_
      refine j_iret dX12_suns_95 rfl ?_
      first | exact kk i (by omega) hi ha (Or.inr (Or.inr h65)) | exact kk i (by omega) hi ha (Or.inr (Or.inl (by have := (nI_leI (a := 16) (b := i) (by omega) (by omega)).mp h43; omega)))
    · have hlt : i < 16 := Nat.not_le.mp (fun q => h43 (nI_le (a := 16) (b := i) q (by omega)))
      refine j_aload0 47 dX12_suns_46 rfl ?_
      refine j_getR 50 dX12_suns_47 rfl fl_X12_40 rfl rfl ?_
      refine j_bipush 52 (v := nI 40) dX12_suns_50 rfl rfl ?_
      refine j_iload1 53 dX12_suns_52 rfl ?_
      refine j_imulN 54 dX12_suns_53 rfl ?_
      refine j_iload2 55 dX12_suns_54 rfl ?_
      refine j_iaddN 56 dX12_suns_55 rfl ?_
      refine j_iald 57 (40 * 3 + i) rfl (show 40 * 3 + i < 160 by omega) dX12_suns_56 rfl rfl ?_
      refine j_top r ?_
      refine j_i2l 58 dX12_suns_57 rfl ?_
      refine j_lconst 59 (v := 0) dX12_suns_58 rfl rfl ?_
      refine j_ldc2 62 dX12_suns_59 rfl kl_X12_177 ?_
      refine j_st3f 65 dX12_suns_62 rfl rfl cl_X12_47 rfl (c_in _ (m0 79 (40 * 3 + i)) 0 9) ?_
      refine j_if_eq_bz 94 68 dX12_suns_65 rfl rfl (fun h65 => ?_) (fun h65 => ?_)
      · refine j_iload2 95 dX12_suns_94 rfl ?_
        refine j_iret dX12_suns_95 rfl ?_
        first | exact kk i (by omega) hi ha (Or.inr (Or.inr h65)) | exact kk i (by omega) hi ha (Or.inr (Or.inl (by have := (nI_leI (a := 16) (b := i) (by omega) (by omega)).mp h43; omega)))
      · refine j_aload0 69 dX12_suns_68 rfl ?_
        refine j_getR 72 dX12_suns_69 rfl fl_X12_7 rfl rfl ?_
        refine j_bipush 74 (v := nI 8) dX12_suns_72 rfl rfl ?_
        refine j_iload2 75 dX12_suns_74 rfl ?_
        refine j_iaddN 76 dX12_suns_75 rfl ?_
        refine j_aload0 77 dX12_suns_76 rfl ?_
        refine j_getR 80 dX12_suns_77 rfl fl_X12_40 rfl rfl ?_
        refine j_bipush 82 (v := nI 40) dX12_suns_80 rfl rfl ?_
        refine j_iload1 83 dX12_suns_82 rfl ?_
        refine j_imulN 84 dX12_suns_83 rfl ?_
        refine j_iload2 85 dX12_suns_84 rfl ?_
        refine j_iaddN 86 dX12_suns_85 rfl ?_
        refine j_iald 87 (40 * 3 + i) rfl (show 40 * 3 + i < 160 by omega) dX12_suns_86 rfl rfl ?_
        refine j_top r ?_
        refine j_iast 88 (8 + i) rfl (show 8 + i < 260 by omega) dX12_suns_87 rfl rfl ?_
        refine j_iinc2 91 (1) dX12_suns_88 rfl rfl rfl rfl ?_
        refine j_goto 30 dX12_suns_91 rfl ?_
        rw [e2]
        refine j_mem (upR_nx2 (b0 := 8) (f := fun t => m0 79 (40 * 3 + t)) (h := m0 69)) ?_
        exact ih (i + 1) (by omega) (by omega) (fun j hj => by
          by_cases q : j = i
          · rw [q]; exact h65
          · exact ha j (by omega))
set_option maxRecDepth 100000 in
theorem o_suns_3 {Q : Option Value → Mem → Prop} (m : Mem) (K : Nat) (hb : ¬ m 65 3 = 0) (hK : m 66 3 = nI K) (h40 : K ≤ 40) (kk : ∀ i, i ≤ min K 16 → (∀ j, j < i → okS m 64 j) → (i = min K 16 ∨ ¬ okS m 64 i) → Q (some (.int (nI i))) (upR m 10 (fun j => if j < i then m 64 j else m 10 j))) : JM l g 2 mX11_suns [rf g 0, .int (nI 3)] m (Q) := by
  refine JM_of (ls := [some (rf g 0), some (.int (nI 3)), none, none, none]) pn_X11 rfl rfl ?_
  have em : imin (m 66 3) (nI 16) = nI (min K 16) := by rw [hK]; exact imin_N (by omega) (by omega)
  refine j_iload1 1 dX11_suns_0 rfl ?_
  refine j_st1f 4 dX11_suns_1 rfl rfl cl_X11_230 rfl (c_isSheet m _) ?_
  refine j_if_ne_bz 14 7 dX11_suns_4 rfl rfl (fun h4 => ?_) (fun h4 => absurd (by decide) h4)
  refine j_aload0 15 dX11_suns_14 rfl ?_
  refine j_iload1 16 dX11_suns_15 rfl ?_
  refine j_vi1f 19 dX11_suns_16 rfl rfl cl_X11_233 rfl rfl (c_isMissing m 3 (by decide)) ?_
  refine j_if_eq_bz 29 22 dX11_suns_19 rfl rfl (fun h19 => ?_) (fun h19 => absurd h19 hb)
  refine j_aload0 30 dX11_suns_29 rfl ?_
  refine j_getR 33 dX11_suns_30 rfl fl_X11_71 rfl rfl ?_
  refine j_iload1 34 dX11_suns_33 rfl ?_
  refine j_iald 35 3 rfl (by decide) dX11_suns_34 rfl rfl ?_
  refine j_bipush 37 (v := nI 16) dX11_suns_35 rfl rfl ?_
  refine j_mmin 40 dX11_suns_37 rfl rfl cl_X11_297 rfl ?_
  refine j_top em ?_
  refine j_istore2 41 dX11_suns_40 rfl rfl rfl ?_
  refine j_iconst 42 (v := 0) dX11_suns_41 rfl rfl ?_
  refine j_istore3 43 dX11_suns_42 rfl rfl rfl ?_
  refine j_mem (upR_n0 (c := 10) (f := fun j => if j < 0 then m 64 j else m 10 j) (fun j => if_neg (Nat.not_lt_zero j))).symm ?_
  exact lp_suns_3 m (min K 16) (by omega) kk (min K 16) 0 none (Nat.zero_add _) (fun j hj => absurd hj (Nat.not_lt_zero j))
set_option maxRecDepth 100000 in
theorem p_suns_3 {Q : Option Value → Mem → Prop} (m : Mem) (K : Nat) (hb : ¬ m 77 3 = 0) (hK : m 78 3 = nI K) (h40 : K ≤ 40) (kk : ∀ i, i ≤ K → i ≤ 16 → (∀ j, j < i → okS m 79 (40 * 3 + j)) → (i = K ∨ i = 16 ∨ ¬ okS m 79 (40 * 3 + i)) → Q (some (.int (nI i))) (upR m 69 (fun j => if 8 ≤ j ∧ j < 8 + i then (fun t => m 79 (40 * 3 + t)) (j - 8) else m 69 j))) : JM l g 2 mX12_suns [rf g 68, .int (nI 3)] m (Q) := by
  refine JM_of (ls := [some (rf g 68), some (.int (nI 3)), none]) pn_X12 rfl rfl ?_
  refine j_iload1 1 dX12_suns_0 rfl ?_
  refine j_st1f 4 dX12_suns_1 rfl rfl cl_X12_243 rfl (c_misSheet m _) ?_
  refine j_if_ne_bz 13 7 dX12_suns_4 rfl rfl (fun h4 => ?_) (fun h4 => absurd (by decide) h4)
  refine j_aload0 14 dX12_suns_13 rfl ?_
  refine j_getR 17 dX12_suns_14 rfl fl_X12_34 rfl rfl ?_
  refine j_iload1 18 dX12_suns_17 rfl ?_
  refine j_iald 19 3 rfl (by decide) dX12_suns_18 rfl rfl ?_
  refine j_if_ne 28 22 dX12_suns_19 rfl rfl (fun h19 => ?_) (fun h19 => absurd h19 hb)
  refine j_iconst 29 (v := 0) dX12_suns_28 rfl rfl ?_
  refine j_istore2 30 dX12_suns_29 rfl rfl rfl ?_
  refine j_mem (upR_n0 (c := 69) (f := fun j => if 8 ≤ j ∧ j < 8 + 0 then (fun t => m 79 (40 * 3 + t)) (j - 8) else m 69 j) (fun j => if_neg (by omega))).symm ?_
  exact lm_suns_3 m K hK h40 kk K 0 (Nat.zero_add _) (Nat.zero_le _) (fun j hj => absurd hj (Nat.not_lt_zero j))
theorem op_suns {m : Mem} (I : INV m) (a : Int32) : OPr l g mX11_suns mX12_suns [.int a] m := by
  obtain ⟨⟨wf, hd, hT, hP⟩, -, -, -, hSH⟩ := id I
  by_cases c : 0 ≤ a ∧ a ≤ 3
  · obtain ⟨s, hs, rfl⟩ := (rngN 3 (by decide)).mp c
    have hs : s < 4 := by omega
    obtain ⟨a1, a2, a3, ⟨K, hK, eK⟩, a5⟩ := hSH s hs
    by_cases hb : m 77 s = 0
    · exact OPr_err I (by decide) (by decide) (by decide) (e_suns1 m s hs (a1.trans hb)) (f_suns1 _ s hs (by rw [errC_o (by decide)]; exact hb))
    · have tr : ∀ j, j < 40 → (okS m (61 + s) j ↔ okS m 79 (40 * s + j)) := fun j hj => by unfold okS; rw [a5 j hj]
      obtain ⟨N, hN, hno, hy⟩ : ∃ N, N ≤ min K 16 ∧ (∀ j, j < N → okS m (61 + s) j) ∧ (N = min K 16 ∨ ¬ okS m (61 + s) N) := by
        rcases findK (fun i => okS m (61 + s) i) (min K 16) with ⟨N, hN, hy, hno⟩ | hno
        · exact ⟨N, by omega, hno, Or.inr hy⟩
        · exact ⟨min K 16, Nat.le_refl _, hno, Or.inl rfl⟩
      have u1 : ∀ i, i ≤ min K 16 → (∀ j, j < i → okS m (61 + s) j) → (i = min K 16 ∨ ¬ okS m (61 + s) i) → i = N := fun i i1 p1 p2 => by
        rcases (show i < N ∨ i = N ∨ N < i by omega) with z | z | z
        · rcases p2 with q | q
          · omega
          · exact absurd (hno i z) q
        · exact z
        · rcases hy with q | q
          · omega
          · exact absurd (p1 N z) q
      have u2 : ∀ i, i ≤ K → i ≤ 16 → (∀ j, j < i → okS m 79 (40 * s + j)) → (i = K ∨ i = 16 ∨ ¬ okS m 79 (40 * s + i)) → i = N := fun i i1 i2 p1 p2 => u1 i (by omega) (fun j hj => (tr j (by omega)).mpr (p1 j hj)) (by
        rcases p2 with q | q | q
        · left; omega
        · left; omega
        · exact Or.inr (fun z => q ((tr i (by omega)).mp z)))
      have key : ∀ m2, m2 = upR (upR m 10 (fun j => if j < N then m (61 + s) j else m 10 j)) 69 (fun j => if 8 ≤ j ∧ j < 8 + N then (fun t => m 79 (40 * s + t)) (j - 8) else m 69 j) → INV m2 := fun m2 e => by
        refine INV_su I (f := m (61 + s)) (N := N) (by omega) (fun i hi => okS_nb (hno i hi)) (e.trans ?_)
        congr 1
        funext j
        unfold suR
        by_cases q : 8 ≤ j ∧ j < 8 + N
        · rw [if_pos q, if_pos q]; exact (a5 (j - 8) (by omega)).symm
        · rw [if_neg q, if_neg q]
      rcases (show s = 0 ∨ s = 1 ∨ s = 2 ∨ s = 3 by omega) with rfl | rfl | rfl | rfl
      · refine ⟨2, 2, nI N, fun m' => m' = upR m 10 (fun j => if j < N then m 61 j else m 10 j), by decide, by decide, o_suns_0 m K (by rw [a1]; exact hb) (a2.trans eK) (by omega) (fun i i1 p1 p2 => by rw [u1 i i1 p1 p2]; exact ⟨rfl, rfl⟩), fun m' e => ?_⟩
        have o : ∀ b, b ≠ 10 → m' b = m b := fun b hb => by rw [e, upR_n hb]
        refine p_suns_0 m' K (by rw [o 77 (by decide)]; exact hb) (by rw [o 78 (by decide)]; exact eK) (by omega) (fun i i1 i2 p1 p2 => ?_)
        unfold okS at p1 p2
        rw [o 79 (by decide)] at p1 p2
        rw [u2 i i1 i2 p1 p2]
        exact ⟨rfl, key _ (by rw [o 79 (by decide), o 69 (by decide), e])⟩
      · refine ⟨2, 2, nI N, fun m' => m' = upR m 10 (fun j => if j < N then m 62 j else m 10 j), by decide, by decide, o_suns_1 m K (by rw [a1]; exact hb) (a2.trans eK) (by omega) (fun i i1 p1 p2 => by rw [u1 i i1 p1 p2]; exact ⟨rfl, rfl⟩), fun m' e => ?_⟩
        have o : ∀ b, b ≠ 10 → m' b = m b := fun b hb => by rw [e, upR_n hb]
        refine p_suns_1 m' K (by rw [o 77 (by decide)]; exact hb) (by rw [o 78 (by decide)]; exact eK) (by omega) (fun i i1 i2 p1 p2 => ?_)
        unfold okS at p1 p2
        rw [o 79 (by decide)] at p1 p2
        rw [u2 i i1 i2 p1 p2]
        exact ⟨rfl, key _ (by rw [o 79 (by decide), o 69 (by decide), e])⟩
      · refine ⟨2, 2, nI N, fun m' => m' = upR m 10 (fun j => if j < N then m 63 j else m 10 j), by decide, by decide, o_suns_2 m K (by rw [a1]; exact hb) (a2.trans eK) (by omega) (fun i i1 p1 p2 => by rw [u1 i i1 p1 p2]; exact ⟨rfl, rfl⟩), fun m' e => ?_⟩
        have o : ∀ b, b ≠ 10 → m' b = m b := fun b hb => by rw [e, upR_n hb]
        refine p_suns_2 m' K (by rw [o 77 (by decide)]; exact hb) (by rw [o 78 (by decide)]; exact eK) (by omega) (fun i i1 i2 p1 p2 => ?_)
        unfold okS at p1 p2
        rw [o 79 (by decide)] at p1 p2
        rw [u2 i i1 i2 p1 p2]
        exact ⟨rfl, key _ (by rw [o 79 (by decide), o 69 (by decide), e])⟩
      · refine ⟨2, 2, nI N, fun m' => m' = upR m 10 (fun j => if j < N then m 64 j else m 10 j), by decide, by decide, o_suns_3 m K (by rw [a1]; exact hb) (a2.trans eK) (by omega) (fun i i1 p1 p2 => by rw [u1 i i1 p1 p2]; exact ⟨rfl, rfl⟩), fun m' e => ?_⟩
        have o : ∀ b, b ≠ 10 → m' b = m b := fun b hb => by rw [e, upR_n hb]
        refine p_suns_3 m' K (by rw [o 77 (by decide)]; exact hb) (by rw [o 78 (by decide)]; exact eK) (by omega) (fun i i1 i2 p1 p2 => ?_)
        unfold okS at p1 p2
        rw [o 79 (by decide)] at p1 p2
        rw [u2 i i1 i2 p1 p2]
        exact ⟨rfl, key _ (by rw [o 79 (by decide), o 69 (by decide), e])⟩
  · exact OPr_err I (by decide) (by decide) (by decide) (e_suns0 m a c) (f_suns0 _ a c)
end O23
