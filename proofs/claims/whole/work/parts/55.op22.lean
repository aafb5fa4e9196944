/-! judge, suns -/
theorem imin_N {a b : Nat} (ha : a < 2 ^ 31) (hb : b < 2 ^ 31) : imin (nI a) (nI b) = nI (min a b) := by
  unfold imin
  by_cases q : b < a
  · rw [if_pos (nI_lt q ha), Nat.min_eq_right (by omega)]
  · rw [if_neg (nI_nlt (by omega) hb), Nat.min_eq_left (by omega)]
theorem upR_nx {m : Mem} {c i : Nat} {f h : Nat → Int32} : up2 (upR m c (fun j => if j < i then f j else h j)) c i (f i) = upR m c (fun j => if j < i + 1 then f j else h j) := by
  funext b j
  unfold up2 upR
  by_cases q : b = c
  · by_cases z : j = i
    · rw [if_pos ⟨q, z⟩, if_pos q, if_pos (by omega), z]
    · rw [if_neg (fun y => z y.2), if_pos q, if_pos q]
      show (if j < i then f j else h j) = if j < i + 1 then f j else h j
      by_cases y : j < i
      · rw [if_pos y, if_pos (by omega)]
      · rw [if_neg y, if_neg (by omega)]
  · rw [if_neg (fun y => q y.1), if_neg q, if_neg q]
theorem upR_nx2 {m : Mem} {c b0 i : Nat} {f h : Nat → Int32} : up2 (upR m c (fun j => if b0 ≤ j ∧ j < b0 + i then f (j - b0) else h j)) c (b0 + i) (f i) = upR m c (fun j => if b0 ≤ j ∧ j < b0 + (i + 1) then f (j - b0) else h j) := by
  funext b j
  unfold up2 upR
  by_cases q : b = c
  · by_cases z : j = b0 + i
    · rw [if_pos ⟨q, z⟩, if_pos q, if_pos (by omega), z, Nat.add_sub_cancel_left]
    · rw [if_neg (fun y => z y.2), if_pos q, if_pos q]
      show (if b0 ≤ j ∧ j < b0 + i then f (j - b0) else h j) = if b0 ≤ j ∧ j < b0 + (i + 1) then f (j - b0) else h j
      by_cases y : b0 ≤ j ∧ j < b0 + i
      · rw [if_pos y, if_pos (by omega)]
      · rw [if_neg y, if_neg (by omega)]
  · rw [if_neg (fun y => q y.1), if_neg q, if_neg q]
theorem upR_n0 {m : Mem} {c : Nat} {f : Nat → Int32} (h : ∀ j, f j = m c j) : upR m c f = m := by
  funext b j
  unfold upR
  by_cases q : b = c
  · rw [if_pos q, h, q]
  · rw [if_neg q]
abbrev okS (m : Mem) (c i : Nat) : Prop := 0 ≤ m c i ∧ m c i ≤ 9
def suR (d f : Nat → Int32) (N : Nat) : Nat → Int32 := fun j => if 8 ≤ j ∧ j < 8 + N then f (j - 8) else d j
theorem suR_o {d f : Nat → Int32} {N k : Nat} (hN : N ≤ 16) (h : k < 8 ∨ 24 ≤ k) : suR d f N k = d k := if_neg (by omega)
theorem suR_s {d f : Nat → Int32} {N i : Nat} : suR d f N (8 + i) = if i < N then f i else d (8 + i) := by
  unfold suR
  by_cases q : i < N
  · rw [if_pos (by omega), if_pos q, Nat.add_sub_cancel_left]
  · rw [if_neg (by omega), if_neg q]
theorem WF_su {d f : Nat → Int32} {N : Nat} (w : WF d) (hN : N ≤ 16) (hf : ∀ i, i < N → nb (f i) 10) : WF (suR d f N) := by
  obtain ⟨w1, w2, w3, w4, w5, w6, w7, w8, w9, w10, w11, w12⟩ := w
  have o : ∀ j, (j < 8 ∨ 24 ≤ j) → suR d f N j = d j := fun j hj => suR_o hN hj
  refine ⟨by rw [o 0 (by omega)]; exact w1, by rw [o 2 (by omega)]; exact w2, by rw [o 3 (by omega)]; exact w3, by rw [o 4 (by omega)]; exact w4, by rw [o 6 (by omega)]; exact w5, by rw [o 7 (by omega)]; exact w6, fun j hj => ?_, fun j hj => by rw [o _ (by omega)]; exact w8 j hj, fun h hh => HWr_eq (fun r hr => o _ (by omega)) (w9 h hh), TX_congr (by decide) (fun j hj => o j (by omega)) w10, TX_congr (by decide) (fun j hj => o j (by omega)) w11, fun j hj => by rw [o _ (by omega)]; exact w12 j hj⟩
  rw [suR_s]
  by_cases q : j < N
  · rw [if_pos q]; exact hf j q
  · rw [if_neg q]; exact w7 j hj
theorem INV_su {m m2 : Mem} (I : INV m) {f : Nat → Int32} {N : Nat} (hN : N ≤ 16) (hf : ∀ i, i < N → nb (f i) 10) (e : m2 = upR (upR m 10 (fun j => if j < N then f j else m 10 j)) 69 (suR (m 69) f N)) : INV m2 := by
  have o : ∀ b, b ≠ 10 → b ≠ 69 → m2 b = m b := fun b h1 h2 => by rw [e, upR_n h2, upR_n h1]
  have r : m2 69 = suR (m 69) f N := by rw [e, upR_s]
  have r10 : m2 10 = fun j => if j < N then f j else m 10 j := by rw [e, upR_n (by decide), upR_s]
  obtain ⟨⟨wf, hd, hT, hP⟩, -⟩ := id I
  refine INV_new I (fun b hb => o b (fun q => by subst q; exact absurd hb (by decide)) (fun q => by subst q; exact absurd hb (by decide))) (o 68 (by decide) (by decide)) ⟨by rw [r]; exact WF_su wf hN hf, by rw [r, suR_o hN (by omega)]; exact hd, ?_, ?_⟩
  · rw [r]
    obtain ⟨t9, t10, t11, t12, t13, ts, tt, th⟩ := hT
    have o9 := o 9 (by decide) (by decide)
    refine ⟨by rw [o9, suR_o hN (by omega)]; exact t9, by rw [o9, suR_o hN (by omega)]; exact t10, by rw [o9, suR_o hN (by omega)]; exact t11, by rw [o9, suR_o hN (by omega)]; exact t12, by rw [o9, suR_o hN (by omega)]; exact t13, fun i hi => ?_, fun i hi => by rw [o (9 + 2) (by decide) (by decide), suR_o hN (by omega)]; exact tt i hi, fun h hh k hk => by rw [o (9 + 3 + k) (by omega) (by omega), th h hh k hk]; exact (suR_o (k := 40 + 6 * h + k) hN (by omega)).symm⟩
    have t := ts i hi
    rw [suR_s, ← t]
    show m2 10 i = if i < N then f i else m 10 i
    rw [r10]
  · rw [r]
    exact PR_d (PR_same hP (fun b hb => o b (by omega) (by omega))) (fun k hk => suR_o hN (by omega))
section O22
variable {l : Launch} {g : Gv}
set_option maxRecDepth 100000 in
theorem lp_judge_0 {Q : Option Value → Mem → Prop} (m : Mem) (E : Nat) (hE : E ≤ 8) (kk1 : ∀ i, i < E → ¬ m 61 i = m 14 i → (∀ j, j < i → m 61 j = m 14 j) → Q (some (.int (nI i))) m) (kk2 : (∀ j, j < E → m 61 j = m 14 j) → J l g 2 mX11_judge 81 [some (rf g 0), some (.int (nI 0)), some (.int (nI E)), some (.int (nI E))] [] m Q) : ∀ (k i : Nat), i + k = E → (∀ j, j < i → m 61 j = m 14 j) → J l g 2 mX11_judge 48 [some (rf g 0), some (.int (nI 0)), some (.int (nI E)), some (.int (nI i))] [] m Q := by
  intro k
  induction k with
  | zero =>
    intro i e ha
    have e : i = E := by omega
    subst e
    refine j_iload3 49 dX11_judge_48 rfl ?_
    refine j_iload2 50 dX11_judge_49 rfl ?_
    refine j_cmp_ge 81 53 dX11_judge_50 rfl rfl (fun h50 => ?_) (fun h50 => absurd (Int32.le_refl _) h50)
    exact kk2 ha
  | succ k ih =>
    intro i e ha
    have e2 : nI i + 1 = nI (i + 1) := nI_1 i
    refine j_iload3 49 dX11_judge_48 rfl ?_
    refine j_iload2 50 dX11_judge_49 rfl ?_
    refine j_cmp_ge 81 53 dX11_judge_50 rfl rfl (fun h50 => absurd h50 (nI_ge (a := i) (b := E) (by omega) (by omega))) (fun h50 => ?_)
    refine j_aload0 54 dX11_judge_53 rfl ?_
    refine j_getR 57 dX11_judge_54 rfl fl_X11_64 rfl rfl ?_
    refine j_iload1 58 dX11_judge_57 rfl ?_
    refine j_aald 59 0 rfl (by decide) dX11_judge_58 rfl (by decide) ?_
    refine j_ref (b := 61) (by decide) ?_
    refine j_iload3 60 dX11_judge_59 rfl ?_
    refine j_iald 61 _ rfl (show i < 40 by omega) dX11_judge_60 rfl rfl ?_
    refine j_aload0 62 dX11_judge_61 rfl ?_
    refine j_getR 65 dX11_judge_62 rfl fl_X11_35 rfl rfl ?_
    refine j_getR 68 dX11_judge_65 rfl fl_X11_133 rfl rfl ?_
    refine j_iload3 69 dX11_judge_68 rfl ?_
    refine j_iald 70 _ rfl (show i < 8 by omega) dX11_judge_69 rfl rfl ?_
    refine j_cmp_eq 75 73 dX11_judge_70 rfl rfl (fun h70 => ?_) (fun h70 => ?_)
    · refine j_iinc3 78 (1) dX11_judge_75 rfl rfl rfl rfl ?_
      refine j_goto 48 dX11_judge_78 rfl ?_
      rw [e2]
      exact ih (i + 1) (by omega) (fun j hj => by
        by_cases q : j = i
        · rw [q]; exact h70
        · exact ha j (by omega))
    · refine j_iload3 74 dX11_judge_73 rfl ?_
      refine j_iret dX11_judge_74 rfl ?_
      exact kk1 i (by omega) h70 ha
set_option maxRecDepth 100000 in
theorem lm_judge_0 {Q : Option Value → Mem → Prop} (m : Mem) (K H : Nat) (hK : m 78 0 = nI K) (h40 : K ≤ 40) (hH : m 69 0 = nI H) (h8 : H ≤ 8) (kk : ∀ i, i ≤ K → i ≤ H → (i = K ∨ i = H ∨ ¬ m 79 (40 * 0 + i) = hf (m 69) i 2) → (∀ j, j < i → m 79 (40 * 0 + j) = hf (m 69) j 2) → Q (some (.int (if i = K ∧ i = H then -1 else nI i))) m) : ∀ (k i : Nat), i + k = K → i ≤ H → (∀ j, j < i → m 79 (40 * 0 + j) = hf (m 69) j 2) → J l g 2 mX12_judge 30 [some (rf g 68), some (.int (nI 0)), some (.int (nI i))] [] m Q := by
  have tl : ∀ i, i ≤ K → i ≤ H → (i = K ∨ i = H ∨ ¬ m 79 (40 * 0 + i) = hf (m 69) i 2) → (∀ j, j < i → m 79 (40 * 0 + j) = hf (m 69) j 2) → J l g 2 mX12_judge 76 [some (rf g 68), some (.int (nI 0)), some (.int (nI i))] [] m Q := by
    intro i h1 h2 h3 h4
    have z := kk i h1 h2 h3 h4
    refine j_iload2 77 dX12_judge_76 rfl ?_
    refine j_aload0 78 dX12_judge_77 rfl ?_
    refine j_getR 81 dX12_judge_78 rfl fl_X12_37 rfl rfl ?_
    refine j_iload1 82 dX12_judge_81 rfl ?_
    refine j_iald 83 0 rfl (by decide) dX12_judge_82 rfl rfl ?_
    refine j_top hK ?_
    refine j_cmp_ne 100 86 dX12_judge_83 rfl rfl (fun h83 => ?_) (fun h83 => ?_)
    · refine j_iload2 101 dX12_judge_100 rfl ?_
      refine j_iret dX12_judge_101 rfl ?_
      first | (rw [if_pos ⟨(nI_eq (by omega) (by omega)).mp h83, (nI_eq (by omega) (by omega)).mp h93⟩] at z; exact z) | (rw [if_neg (fun q => h93 (by rw [q.2]))] at z; exact z) | (rw [if_neg (fun q => h83 (by rw [q.1]))] at z; exact z)
    · refine j_iload2 87 dX12_judge_86 rfl ?_
      refine j_aload0 88 dX12_judge_87 rfl ?_
      refine j_getR 91 dX12_judge_88 rfl fl_X12_7 rfl rfl ?_
      refine j_iconst 92 (v := 0) dX12_judge_91 rfl rfl ?_
      refine j_iald 93 0 rfl (by first | assumption | decide | omega) dX12_judge_92 rfl rfl ?_
      refine j_top hH ?_
      refine j_cmp_ne 100 96 dX12_judge_93 rfl rfl (fun h93 => ?_) (fun h93 => ?_)
      · refine j_iload2 101 dX12_judge_100 rfl ?_
        refine j_iret dX12_judge_101 rfl ?_
        first | (rw [if_pos ⟨(nI_eq (by omega) (by omega)).mp h83, (nI_eq (by omega) (by omega)).mp h93⟩] at z; exact z) | (rw [if_neg (fun q => h93 (by rw [q.2]))] at z; exact z) | (rw [if_neg (fun q => h83 (by rw [q.1]))] at z; exact z)
      · refine j_iconst 97 (v := -1) dX12_judge_96 rfl rfl ?_
        refine j_goto 101 dX12_judge_97 rfl ?_
        refine j_iret dX12_judge_101 rfl ?_
        first | (rw [if_pos ⟨(nI_eq (by omega) (by omega)).mp h83, (nI_eq (by omega) (by omega)).mp h93⟩] at z; exact z) | (rw [if_neg (fun q => h93 (by rw [q.2]))] at z; exact z) | (rw [if_neg (fun q => h83 (by rw [q.1]))] at z; exact z)
  intro k
  induction k with
  | zero =>
    intro i e hi ha
    have e : i = K := by omega
    refine j_iload2 31 dX12_judge_30 rfl ?_
    refine j_aload0 32 dX12_judge_31 rfl ?_
    refine j_getR 35 dX12_judge_32 rfl fl_X12_37 rfl rfl ?_
    refine j_iload1 36 dX12_judge_35 rfl ?_
    refine j_iald 37 0 rfl (by decide) dX12_judge_36 rfl rfl ?_
    refine j_top hK ?_
    refine j_cmp_ge 76 40 dX12_judge_37 rfl rfl (fun h37 => ?_) (fun h37 => absurd (by rw [e]; exact Int32.le_refl _) h37)
    exact tl i (by omega) hi (Or.inl e) ha
  | succ k ih =>
    intro i e hi ha
    have e2 : nI i + 1 = nI (i + 1) := nI_1 i
    refine j_iload2 31 dX12_judge_30 rfl ?_
    refine j_aload0 32 dX12_judge_31 rfl ?_
    refine j_getR 35 dX12_judge_32 rfl fl_X12_37 rfl rfl ?_
    refine j_iload1 36 dX12_judge_35 rfl ?_
    refine j_iald 37 0 rfl (by decide) dX12_judge_36 rfl rfl ?_
    refine j_top hK ?_
    refine j_cmp_ge 76 40 dX12_judge_37 rfl rfl (fun h37 => absurd h37 (nI_ge (a := i) (b := K) (by omega) (by omega))) (fun h37 => ?_)
    refine j_iload2 41 dX12_judge_40 rfl ?_
    refine j_aload0 42 dX12_judge_41 rfl ?_
    refine j_getR 45 dX12_judge_42 rfl fl_X12_7 rfl rfl ?_
    refine j_iconst 46 (v := 0) dX12_judge_45 rfl rfl ?_
    refine j_iald 47 0 rfl (by first | assumption | decide | omega) dX12_judge_46 rfl rfl ?_
    refine j_top hH ?_
    refine j_cmp_ge 76 50 dX12_judge_47 rfl rfl (fun h47 => ?_) (fun h47 => ?_)
    · first | exact tl i (by omega) hi (Or.inr (Or.inr h67)) ha | exact tl i (by omega) hi (Or.inr (Or.inl (by have := (nI_leI (by omega) (by omega)).mp h47; omega))) ha
    · have hlt : i < H := Nat.not_le.mp (fun q => h47 (nI_le q (by omega)))
      refine j_aload0 51 dX12_judge_50 rfl ?_
      refine j_getR 54 dX12_judge_51 rfl fl_X12_40 rfl rfl ?_
      refine j_bipush 56 (v := nI 40) dX12_judge_54 rfl rfl ?_
      refine j_iload1 57 dX12_judge_56 rfl ?_
      refine j_imulN 58 dX12_judge_57 rfl ?_
      refine j_iload2 59 dX12_judge_58 rfl ?_
      refine j_iaddN 60 dX12_judge_59 rfl ?_
      refine j_iald 61 (40 * 0 + i) rfl (show 40 * 0 + i < 160 by omega) dX12_judge_60 rfl rfl ?_
      refine j_aload0 62 dX12_judge_61 rfl ?_
      refine j_iload2 63 dX12_judge_62 rfl ?_
      refine j_iconst 64 (v := nI 2) dX12_judge_63 rfl rfl ?_
      refine j_vi2f 67 dX12_judge_64 rfl rfl cl_X12_146 rfl rfl (c_of m i 2 (by omega) (by decide)) ?_
      refine j_cmp_ne 76 70 dX12_judge_67 rfl rfl (fun h67 => ?_) (fun h67 => ?_)
      · first | exact tl i (by omega) hi (Or.inr (Or.inr h67)) ha | exact tl i (by omega) hi (Or.inr (Or.inl (by have := (nI_leI (by omega) (by omega)).mp h47; omega))) ha
      · refine j_iinc2 73 (1) dX12_judge_70 rfl rfl rfl rfl ?_
        refine j_goto 30 dX12_judge_73 rfl ?_
        rw [e2]
        exact ih (i + 1) (by omega) (by omega) (fun j hj => by
          by_cases q : j = i
          · rw [q]; exact h67
          · exact ha j (by omega))
set_option maxRecDepth 100000 in
theorem o_judge_0 {Q : Option Value → Mem → Prop} (m : Mem) (K H : Nat) (hb : ¬ m 65 0 = 0) (hK : m 66 0 = nI K) (h40 : K ≤ 40) (hH : m 9 9 = nI H) (h8 : H ≤ 8) (kk1 : ∀ i, i < min K H → ¬ m 61 i = m 14 i → (∀ j, j < i → m 61 j = m 14 j) → Q (some (.int (nI i))) m) (kk2 : (∀ j, j < min K H → m 61 j = m 14 j) → Q (some (.int (if K = H then -1 else nI (min K H)))) m) : JM l g 2 mX11_judge [rf g 0, .int (nI 0)] m (Q) := by
  refine JM_of (ls := [some (rf g 0), some (.int (nI 0)), none, none]) pn_X11 rfl rfl ?_
  have em : imin (m 66 0) (m 9 9) = nI (min K H) := by rw [hK, hH]; exact imin_N (by omega) (by omega)
  have t8 : min K H ≤ 8 := by omega
  have tl : (∀ j, j < min K H → m 61 j = m 14 j) → J l g 2 mX11_judge 81 [some (rf g 0), some (.int (nI 0)), some (.int (nI (min K H))), some (.int (nI (min K H)))] [] m Q := by
    intro ha
    have z := kk2 ha
    refine j_aload0 82 dX11_judge_81 rfl ?_
    refine j_getR 85 dX11_judge_82 rfl fl_X11_71 rfl rfl ?_
    refine j_iload1 86 dX11_judge_85 rfl ?_
    refine j_iald 87 0 rfl (by decide) dX11_judge_86 rfl rfl ?_
    refine j_top hK ?_
    refine j_aload0 88 dX11_judge_87 rfl ?_
    refine j_getR 91 dX11_judge_88 rfl fl_X11_35 rfl rfl ?_
    refine j_getI 94 dX11_judge_91 rfl fl_X11_116 rfl rfl ?_
    refine j_top hH ?_
    refine j_cmp_ne 101 97 dX11_judge_94 rfl rfl (fun h94 => ?_) (fun h94 => ?_)
    · refine j_iload2 102 dX11_judge_101 rfl ?_
      refine j_iret dX11_judge_102 rfl ?_
      first | (rw [if_pos ((nI_eq (by omega) (by omega)).mp h94)] at z; exact z) | (rw [if_neg (fun q => h94 (by rw [q]))] at z; exact z)
    · refine j_iconst 98 (v := -1) dX11_judge_97 rfl rfl ?_
      refine j_goto 102 dX11_judge_98 rfl ?_
      refine j_iret dX11_judge_102 rfl ?_
      first | (rw [if_pos ((nI_eq (by omega) (by omega)).mp h94)] at z; exact z) | (rw [if_neg (fun q => h94 (by rw [q]))] at z; exact z)
  refine j_iload1 1 dX11_judge_0 rfl ?_
  refine j_st1f 4 dX11_judge_1 rfl rfl cl_X11_230 rfl (c_isSheet m _) ?_
  refine j_if_ne_bz 14 7 dX11_judge_4 rfl rfl (fun h4 => ?_) (fun h4 => absurd (by decide) h4)
  refine j_aload0 15 dX11_judge_14 rfl ?_
  refine j_iload1 16 dX11_judge_15 rfl ?_
  refine j_vi1f 19 dX11_judge_16 rfl rfl cl_X11_233 rfl rfl (c_isMissing m 0 (by decide)) ?_
  refine j_if_eq_bz 29 22 dX11_judge_19 rfl rfl (fun h19 => ?_) (fun h19 => absurd h19 hb)
  refine j_aload0 30 dX11_judge_29 rfl ?_
  refine j_getR 33 dX11_judge_30 rfl fl_X11_71 rfl rfl ?_
  refine j_iload1 34 dX11_judge_33 rfl ?_
  refine j_iald 35 0 rfl (by decide) dX11_judge_34 rfl rfl ?_
  refine j_aload0 36 dX11_judge_35 rfl ?_
  refine j_getR 39 dX11_judge_36 rfl fl_X11_35 rfl rfl ?_
  refine j_getI 42 dX11_judge_39 rfl fl_X11_116 rfl rfl ?_
  refine j_mmin 45 dX11_judge_42 rfl rfl cl_X11_297 rfl ?_
  refine j_top em ?_
  refine j_istore2 46 dX11_judge_45 rfl rfl rfl ?_
  refine j_iconst 47 (v := 0) dX11_judge_46 rfl rfl ?_
  refine j_istore3 48 dX11_judge_47 rfl rfl rfl ?_
  exact lp_judge_0 m (min K H) t8 kk1 tl (min K H) 0 (Nat.zero_add _) (fun j hj => absurd hj (Nat.not_lt_zero j))
set_option maxRecDepth 100000 in
theorem p_judge_0 {Q : Option Value → Mem → Prop} (m : Mem) (K H : Nat) (hb : ¬ m 77 0 = 0) (hK : m 78 0 = nI K) (h40 : K ≤ 40) (hH : m 69 0 = nI H) (h8 : H ≤ 8) (kk : ∀ i, i ≤ K → i ≤ H → (i = K ∨ i = H ∨ ¬ m 79 (40 * 0 + i) = hf (m 69) i 2) → (∀ j, j < i → m 79 (40 * 0 + j) = hf (m 69) j 2) → Q (some (.int (if i = K ∧ i = H then -1 else nI i))) m) : JM l g 2 mX12_judge [rf g 68, .int (nI 0)] m (Q) := by
  refine JM_of (ls := [some (rf g 68), some (.int (nI 0)), none]) pn_X12 rfl rfl ?_
  refine j_iload1 1 dX12_judge_0 rfl ?_
  refine j_st1f 4 dX12_judge_1 rfl rfl cl_X12_243 rfl (c_misSheet m _) ?_
  refine j_if_ne_bz 13 7 dX12_judge_4 rfl rfl (fun h4 => ?_) (fun h4 => absurd (by decide) h4)
  refine j_aload0 14 dX12_judge_13 rfl ?_
  refine j_getR 17 dX12_judge_14 rfl fl_X12_34 rfl rfl ?_
  refine j_iload1 18 dX12_judge_17 rfl ?_
  refine j_iald 19 0 rfl (by decide) dX12_judge_18 rfl rfl ?_
  refine j_if_ne 28 22 dX12_judge_19 rfl rfl (fun h19 => ?_) (fun h19 => absurd h19 hb)
  refine j_iconst 29 (v := 0) dX12_judge_28 rfl rfl ?_
  refine j_istore2 30 dX12_judge_29 rfl rfl rfl ?_
  exact lm_judge_0 m K H hK h40 hH h8 kk K 0 (Nat.zero_add _) (Nat.zero_le _) (fun j hj => absurd hj (Nat.not_lt_zero j))
set_option maxRecDepth 100000 in
theorem lp_judge_1 {Q : Option Value → Mem → Prop} (m : Mem) (E : Nat) (hE : E ≤ 8) (kk1 : ∀ i, i < E → ¬ m 62 i = m 14 i → (∀ j, j < i → m 62 j = m 14 j) → Q (some (.int (nI i))) m) (kk2 : (∀ j, j < E → m 62 j = m 14 j) → J l g 2 mX11_judge 81 [some (rf g 0), some (.int (nI 1)), some (.int (nI E)), some (.int (nI E))] [] m Q) : ∀ (k i : Nat), i + k = E → (∀ j, j < i → m 62 j = m 14 j) → J l g 2 mX11_judge 48 [some (rf g 0), some (.int (nI 1)), some (.int (nI E)), some (.int (nI i))] [] m Q := by
  intro k
  induction k with
  | zero =>
    intro i e ha
    have e : i = E := by omega
    subst e
    refine j_iload3 49 dX11_judge_48 rfl ?_
    refine j_iload2 50 dX11_judge_49 rfl ?_
    refine j_cmp_ge 81 53 dX11_judge_50 rfl rfl (fun h50 => ?_) (fun h50 => absurd (Int32.le_refl _) h50)
    exact kk2 ha
  | succ k ih =>
    intro i e ha
    have e2 : nI i + 1 = nI (i + 1) := nI_1 i
    refine j_iload3 49 dX11_judge_48 rfl ?_
    refine j_iload2 50 dX11_judge_49 rfl ?_
    refine j_cmp_ge 81 53 dX11_judge_50 rfl rfl (fun h50 => absurd h50 (nI_ge (a := i) (b := E) (by omega) (by omega))) (fun h50 => ?_)
    refine j_aload0 54 dX11_judge_53 rfl ?_
    refine j_getR 57 dX11_judge_54 rfl fl_X11_64 rfl rfl ?_
    refine j_iload1 58 dX11_judge_57 rfl ?_
    refine j_aald 59 1 rfl (by decide) dX11_judge_58 rfl (by decide) ?_
    refine j_ref (b := 62) (by decide) ?_
    refine j_iload3 60 dX11_judge_59 rfl ?_
    refine j_iald 61 _ rfl (show i < 40 by omega) dX11_judge_60 rfl rfl ?_
    refine j_aload0 62 dX11_judge_61 rfl ?_
    refine j_getR 65 dX11_judge_62 rfl fl_X11_35 rfl rfl ?_
    refine j_getR 68 dX11_judge_65 rfl fl_X11_133 rfl rfl ?_
    refine j_iload3 69 dX11_judge_68 rfl ?_
    refine j_iald 70 _ rfl (show i < 8 by omega) dX11_judge_69 rfl rfl ?_
    refine j_cmp_eq 75 73 dX11_judge_70 rfl rfl (fun h70 => ?_) (fun h70 => ?_)
    · refine j_iinc3 78 (1) dX11_judge_75 rfl rfl rfl rfl ?_
      refine j_goto 48 dX11_judge_78 rfl ?_
      rw [e2]
      exact ih (i + 1) (by omega) (fun j hj => by
        by_cases q : j = i
        · rw [q]; exact h70
        · exact ha j (by omega))
    · refine j_iload3 74 dX11_judge_73 rfl ?_
      refine j_iret dX11_judge_74 rfl ?_
      exact kk1 i (by omega) h70 ha
set_option maxRecDepth 100000 in
theorem lm_judge_1 {Q : Option Value → Mem → Prop} (m : Mem) (K H : Nat) (hK : m 78 1 = nI K) (h40 : K ≤ 40) (hH : m 69 0 = nI H) (h8 : H ≤ 8) (kk : ∀ i, i ≤ K → i ≤ H → (i = K ∨ i = H ∨ ¬ m 79 (40 * 1 + i) = hf (m 69) i 2) → (∀ j, j < i → m 79 (40 * 1 + j) = hf (m 69) j 2) → Q (some (.int (if i = K ∧ i = H then -1 else nI i))) m) : ∀ (k i : Nat), i + k = K → i ≤ H → (∀ j, j < i → m 79 (40 * 1 + j) = hf (m 69) j 2) → J l g 2 mX12_judge 30 [some (rf g 68), some (.int (nI 1)), some (.int (nI i))] [] m Q := by
  have tl : ∀ i, i ≤ K → i ≤ H → (i = K ∨ i = H ∨ ¬ m 79 (40 * 1 + i) = hf (m 69) i 2) → (∀ j, j < i → m 79 (40 * 1 + j) = hf (m 69) j 2) → J l g 2 mX12_judge 76 [some (rf g 68), some (.int (nI 1)), some (.int (nI i))] [] m Q := by
    intro i h1 h2 h3 h4
    have z := kk i h1 h2 h3 h4
    refine j_iload2 77 dX12_judge_76 rfl ?_
    refine j_aload0 78 dX12_judge_77 rfl ?_
    refine j_getR 81 dX12_judge_78 rfl fl_X12_37 rfl rfl ?_
    refine j_iload1 82 dX12_judge_81 rfl ?_
    refine j_iald 83 1 rfl (by decide) dX12_judge_82 rfl rfl ?_
    refine j_top hK ?_
    refine j_cmp_ne 100 86 dX12_judge_83 rfl rfl (fun h83 => ?_) (fun h83 => ?_)
    · refine j_iload2 101 dX12_judge_100 rfl ?_
      refine j_iret dX12_judge_101 rfl ?_
      first | (rw [if_pos ⟨(nI_eq (by omega) (by omega)).mp h83, (nI_eq (by omega) (by omega)).mp h93⟩] at z; exact z) | (rw [if_neg (fun q => h93 (by rw [q.2]))] at z; exact z) | (rw [if_neg (fun q => h83 (by rw [q.1]))] at z; exact z)
    · refine j_iload2 87 dX12_judge_86 rfl ?_
      refine j_aload0 88 dX12_judge_87 rfl ?_
      refine j_getR 91 dX12_judge_88 rfl fl_X12_7 rfl rfl ?_
      refine j_iconst 92 (v := 0) dX12_judge_91 rfl rfl ?_
      refine j_iald 93 0 rfl (by first | assumption | decide | omega) dX12_judge_92 rfl rfl ?_
      refine j_top hH ?_
      refine j_cmp_ne 100 96 dX12_judge_93 rfl rfl (fun h93 => ?_) (fun h93 => ?_)
      · refine j_iload2 101 dX12_judge_100 rfl ?_
        refine j_iret dX12_judge_101 rfl ?_
        first | (rw [if_pos ⟨(nI_eq (by omega) (by omega)).mp h83, (nI_eq (by omega) (by omega)).mp h93⟩] at z; exact z) | (rw [if_neg (fun q => h93 (by rw [q.2]))] at z; exact z) | (rw [if_neg (fun q => h83 (by rw [q.1]))] at z; exact z)
      · refine j_iconst 97 (v := -1) dX12_judge_96 rfl rfl ?_
        refine j_goto 101 dX12_judge_97 rfl ?_
        refine j_iret dX12_judge_101 rfl ?_
        first | (rw [if_pos ⟨(nI_eq (by omega) (by omega)).mp h83, (nI_eq (by omega) (by omega)).mp h93⟩] at z; exact z) | (rw [if_neg (fun q => h93 (by rw [q.2]))] at z; exact z) | (rw [if_neg (fun q => h83 (by rw [q.1]))] at z; exact z)
  intro k
  induction k with
  | zero =>
    intro i e hi ha
    have e : i = K := by omega
    refine j_iload2 31 dX12_judge_30 rfl ?_
    refine j_aload0 32 dX12_judge_31 rfl ?_
    refine j_getR 35 dX12_judge_32 rfl fl_X12_37 rfl rfl ?_
    refine j_iload1 36 dX12_judge_35 rfl ?_
    refine j_iald 37 1 rfl (by decide) dX12_judge_36 rfl rfl ?_
    refine j_top hK ?_
    refine j_cmp_ge 76 40 dX12_judge_37 rfl rfl (fun h37 => ?_) (fun h37 => absurd (by rw [e]; exact Int32.le_refl _) h37)
    exact tl i (by omega) hi (Or.inl e) ha
  | succ k ih =>
    intro i e hi ha
    have e2 : nI i + 1 = nI (i + 1) := nI_1 i
    refine j_iload2 31 dX12_judge_30 rfl ?_
    refine j_aload0 32 dX12_judge_31 rfl ?_
    refine j_getR 35 dX12_judge_32 rfl fl_X12_37 rfl rfl ?_
    refine j_iload1 36 dX12_judge_35 rfl ?_
    refine j_iald 37 1 rfl (by decide) dX12_judge_36 rfl rfl ?_
    refine j_top hK ?_
    refine j_cmp_ge 76 40 dX12_judge_37 rfl rfl (fun h37 => absurd h37 (nI_ge (a := i) (b := K) (by omega) (by omega))) (fun h37 => ?_)
    refine j_iload2 41 dX12_judge_40 rfl ?_
    refine j_aload0 42 dX12_judge_41 rfl ?_
    refine j_getR 45 dX12_judge_42 rfl fl_X12_7 rfl rfl ?_
    refine j_iconst 46 (v := 0) dX12_judge_45 rfl rfl ?_
    refine j_iald 47 0 rfl (by first | assumption | decide | omega) dX12_judge_46 rfl rfl ?_
    refine j_top hH ?_
    refine j_cmp_ge 76 50 dX12_judge_47 rfl rfl (fun h47 => ?_) (fun h47 => ?_)
    · first | exact tl i (by omega) hi (Or.inr (Or.inr h67)) ha | exact tl i (by omega) hi (Or.inr (Or.inl (by have := (nI_leI (by omega) (by omega)).mp h47; omega))) ha
    · have hlt : i < H := Nat.not_le.mp (fun q => h47 (nI_le q (by omega)))
      refine j_aload0 51 dX12_judge_50 rfl ?_
      refine j_getR 54 dX12_judge_51 rfl fl_X12_40 rfl rfl ?_
      refine j_bipush 56 (v := nI 40) dX12_judge_54 rfl rfl ?_
      refine j_iload1 57 dX12_judge_56 rfl ?_
      refine j_imulN 58 dX12_judge_57 rfl ?_
      refine j_iload2 59 dX12_judge_58 rfl ?_
      refine j_iaddN 60 dX12_judge_59 rfl ?_
      refine j_iald 61 (40 * 1 + i) rfl (show 40 * 1 + i < 160 by omega) dX12_judge_60 rfl rfl ?_
      refine j_aload0 62 dX12_judge_61 rfl ?_
      refine j_iload2 63 dX12_judge_62 rfl ?_
      refine j_iconst 64 (v := nI 2) dX12_judge_63 rfl rfl ?_
      refine j_vi2f 67 dX12_judge_64 rfl rfl cl_X12_146 rfl rfl (c_of m i 2 (by omega) (by decide)) ?_
      refine j_cmp_ne 76 70 dX12_judge_67 rfl rfl (fun h67 => ?_) (fun h67 => ?_)
      · first | exact tl i (by omega) hi (Or.inr (Or.inr h67)) ha | exact tl i (by omega) hi (Or.inr (Or.inl (by have := (nI_leI (by omega) (by omega)).mp h47; omega))) ha
      · refine j_iinc2 73 (1) dX12_judge_70 rfl rfl rfl rfl ?_
        refine j_goto 30 dX12_judge_73 rfl ?_
        rw [e2]
        exact ih (i + 1) (by omega) (by omega) (fun j hj => by
          by_cases q : j = i
          · rw [q]; exact h67
          · exact ha j (by omega))
set_option maxRecDepth 100000 in
theorem o_judge_1 {Q : Option Value → Mem → Prop} (m : Mem) (K H : Nat) (hb : ¬ m 65 1 = 0) (hK : m 66 1 = nI K) (h40 : K ≤ 40) (hH : m 9 9 = nI H) (h8 : H ≤ 8) (kk1 : ∀ i, i < min K H → ¬ m 62 i = m 14 i → (∀ j, j < i → m 62 j = m 14 j) → Q (some (.int (nI i))) m) (kk2 : (∀ j, j < min K H → m 62 j = m 14 j) → Q (some (.int (if K = H then -1 else nI (min K H)))) m) : JM l g 2 mX11_judge [rf g 0, .int (nI 1)] m (Q) := by
  refine JM_of (ls := [some (rf g 0), some (.int (nI 1)), none, none]) pn_X11 rfl rfl ?_
  have em : imin (m 66 1) (m 9 9) = nI (min K H) := by rw [hK, hH]; exact imin_N (by omega) (by omega)
  have t8 : min K H ≤ 8 := by omega
  have tl : (∀ j, j < min K H → m 62 j = m 14 j) → J l g 2 mX11_judge 81 [some (rf g 0), some (.int (nI 1)), some (.int (nI (min K H))), some (.int (nI (min K H)))] [] m Q := by
    intro ha
    have z := kk2 ha
    refine j_aload0 82 dX11_judge_81 rfl ?_
    refine j_getR 85 dX11_judge_82 rfl fl_X11_71 rfl rfl ?_
    refine j_iload1 86 dX11_judge_85 rfl ?_
    refine j_iald 87 1 rfl (by decide) dX11_judge_86 rfl rfl ?_
    refine j_top hK ?_
    refine j_aload0 88 dX11_judge_87 rfl ?_
    refine j_getR 91 dX11_judge_88 rfl fl_X11_35 rfl rfl ?_
    refine j_getI 94 dX11_judge_91 rfl fl_X11_116 rfl rfl ?_
    refine j_top hH ?_
    refine j_cmp_ne 101 97 dX11_judge_94 rfl rfl (fun h94 => ?_) (fun h94 => ?_)
    · refine j_iload2 102 dX11_judge_101 rfl ?_
      refine j_iret dX11_judge_102 rfl ?_
      first | (rw [if_pos ((nI_eq (by omega) (by omega)).mp h94)] at z; exact z) | (rw [if_neg (fun q => h94 (by rw [q]))] at z; exact z)
    · refine j_iconst 98 (v := -1) dX11_judge_97 rfl rfl ?_
      refine j_goto 102 dX11_judge_98 rfl ?_
      refine j_iret dX11_judge_102 rfl ?_
      first | (rw [if_pos ((nI_eq (by omega) (by omega)).mp h94)] at z; exact z) | (rw [if_neg (fun q => h94 (by rw [q]))] at z; exact z)
  refine j_iload1 1 dX11_judge_0 rfl ?_
  refine j_st1f 4 dX11_judge_1 rfl rfl cl_X11_230 rfl (c_isSheet m _) ?_
  refine j_if_ne_bz 14 7 dX11_judge_4 rfl rfl (fun h4 => ?_) (fun h4 => absurd (by decide) h4)
  refine j_aload0 15 dX11_judge_14 rfl ?_
  refine j_iload1 16 dX11_judge_15 rfl ?_
  refine j_vi1f 19 dX11_judge_16 rfl rfl cl_X11_233 rfl rfl (c_isMissing m 1 (by decide)) ?_
  refine j_if_eq_bz 29 22 dX11_judge_19 rfl rfl (fun h19 => ?_) (fun h19 => absurd h19 hb)
  refine j_aload0 30 dX11_judge_29 rfl ?_
  refine j_getR 33 dX11_judge_30 rfl fl_X11_71 rfl rfl ?_
  refine j_iload1 34 dX11_judge_33 rfl ?_
  refine j_iald 35 1 rfl (by decide) dX11_judge_34 rfl rfl ?_
  refine j_aload0 36 dX11_judge_35 rfl ?_
  refine j_getR 39 dX11_judge_36 rfl fl_X11_35 rfl rfl ?_
  refine j_getI 42 dX11_judge_39 rfl fl_X11_116 rfl rfl ?_
  refine j_mmin 45 dX11_judge_42 rfl rfl cl_X11_297 rfl ?_
  refine j_top em ?_
  refine j_istore2 46 dX11_judge_45 rfl rfl rfl ?_
  refine j_iconst 47 (v := 0) dX11_judge_46 rfl rfl ?_
  refine j_istore3 48 dX11_judge_47 rfl rfl rfl ?_
  exact lp_judge_1 m (min K H) t8 kk1 tl (min K H) 0 (Nat.zero_add _) (fun j hj => absurd hj (Nat.not_lt_zero j))
set_option maxRecDepth 100000 in
theorem p_judge_1 {Q : Option Value → Mem → Prop} (m : Mem) (K H : Nat) (hb : ¬ m 77 1 = 0) (hK : m 78 1 = nI K) (h40 : K ≤ 40) (hH : m 69 0 = nI H) (h8 : H ≤ 8) (kk : ∀ i, i ≤ K → i ≤ H → (i = K ∨ i = H ∨ ¬ m 79 (40 * 1 + i) = hf (m 69) i 2) → (∀ j, j < i → m 79 (40 * 1 + j) = hf (m 69) j 2) → Q (some (.int (if i = K ∧ i = H then -1 else nI i))) m) : JM l g 2 mX12_judge [rf g 68, .int (nI 1)] m (Q) := by
  refine JM_of (ls := [some (rf g 68), some (.int (nI 1)), none]) pn_X12 rfl rfl ?_
  refine j_iload1 1 dX12_judge_0 rfl ?_
  refine j_st1f 4 dX12_judge_1 rfl rfl cl_X12_243 rfl (c_misSheet m _) ?_
  refine j_if_ne_bz 13 7 dX12_judge_4 rfl rfl (fun h4 => ?_) (fun h4 => absurd (by decide) h4)
  refine j_aload0 14 dX12_judge_13 rfl ?_
  refine j_getR 17 dX12_judge_14 rfl fl_X12_34 rfl rfl ?_
  refine j_iload1 18 dX12_judge_17 rfl ?_
  refine j_iald 19 1 rfl (by decide) dX12_judge_18 rfl rfl ?_
  refine j_if_ne 28 22 dX12_judge_19 rfl rfl (fun h19 => ?_) (fun h19 => absurd h19 hb)
  refine j_iconst 29 (v := 0) dX12_judge_28 rfl rfl ?_
  refine j_istore2 30 dX12_judge_29 rfl rfl rfl ?_
  exact lm_judge_1 m K H hK h40 hH h8 kk K 0 (Nat.zero_add _) (Nat.zero_le _) (fun j hj => absurd hj (Nat.not_lt_zero j))
set_option maxRecDepth 100000 in
theorem lp_judge_2 {Q : Option Value → Mem → Prop} (m : Mem) (E : Nat) (hE : E ≤ 8) (kk1 : ∀ i, i < E → ¬ m 63 i = m 14 i → (∀ j, j < i → m 63 j = m 14 j) → Q (some (.int (nI i))) m) (kk2 : (∀ j, j < E → m 63 j = m 14 j) → J l g 2 mX11_judge 81 [some (rf g 0), some (.int (nI 2)), some (.int (nI E)), some (.int (nI E))] [] m Q) : ∀ (k i : Nat), i + k = E → (∀ j, j < i → m 63 j = m 14 j) → J l g 2 mX11_judge 48 [some (rf g 0), some (.int (nI 2)), some (.int (nI E)), some (.int (nI i))] [] m Q := by
  intro k
  induction k with
  | zero =>
    intro i e ha
    have e : i = E := by omega
    subst e
    refine j_iload3 49 dX11_judge_48 rfl ?_
    refine j_iload2 50 dX11_judge_49 rfl ?_
    refine j_cmp_ge 81 53 dX11_judge_50 rfl rfl (fun h50 => ?_) (fun h50 => absurd (Int32.le_refl _) h50)
    exact kk2 ha
  | succ k ih =>
    intro i e ha
    have e2 : nI i + 1 = nI (i + 1) := nI_1 i
    refine j_iload3 49 dX11_judge_48 rfl ?_
    refine j_iload2 50 dX11_judge_49 rfl ?_
    refine j_cmp_ge 81 53 dX11_judge_50 rfl rfl (fun h50 => absurd h50 (nI_ge (a := i) (b := E) (by omega) (by omega))) (fun h50 => ?_)
    refine j_aload0 54 dX11_judge_53 rfl ?_
    refine j_getR 57 dX11_judge_54 rfl fl_X11_64 rfl rfl ?_
    refine j_iload1 58 dX11_judge_57 rfl ?_
    refine j_aald 59 2 rfl (by decide) dX11_judge_58 rfl (by decide) ?_
    refine j_ref (b := 63) (by decide) ?_
    refine j_iload3 60 dX11_judge_59 rfl ?_
    refine j_iald 61 _ rfl (show i < 40 by omega) dX11_judge_60 rfl rfl ?_
    refine j_aload0 62 dX11_judge_61 rfl ?_
    refine j_getR 65 dX11_judge_62 rfl fl_X11_35 rfl rfl ?_
    refine j_getR 68 dX11_judge_65 rfl fl_X11_133 rfl rfl ?_
    refine j_iload3 69 dX11_judge_68 rfl ?_
    refine j_iald 70 _ rfl (show i < 8 by omega) dX11_judge_69 rfl rfl ?_
    refine j_cmp_eq 75 73 dX11_judge_70 rfl rfl (fun h70 => ?_) (fun h70 => ?_)
    · refine j_iinc3 78 (1) dX11_judge_75 rfl rfl rfl rfl ?_
      refine j_goto 48 dX11_judge_78 rfl ?_
      rw [e2]
      exact ih (i + 1) (by omega) (fun j hj => by
        by_cases q : j = i
        · rw [q]; exact h70
        · exact ha j (by omega))
    · refine j_iload3 74 dX11_judge_73 rfl ?_
      refine j_iret dX11_judge_74 rfl ?_
      exact kk1 i (by omega) h70 ha
set_option maxRecDepth 100000 in
theorem lm_judge_2 {Q : Option Value → Mem → Prop} (m : Mem) (K H : Nat) (hK : m 78 2 = nI K) (h40 : K ≤ 40) (hH : m 69 0 = nI H) (h8 : H ≤ 8) (kk : ∀ i, i ≤ K → i ≤ H → (i = K ∨ i = H ∨ ¬ m 79 (40 * 2 + i) = hf (m 69) i 2) → (∀ j, j < i → m 79 (40 * 2 + j) = hf (m 69) j 2) → Q (some (.int (if i = K ∧ i = H then -1 else nI i))) m) : ∀ (k i : Nat), i + k = K → i ≤ H → (∀ j, j < i → m 79 (40 * 2 + j) = hf (m 69) j 2) → J l g 2 mX12_judge 30 [some (rf g 68), some (.int (nI 2)), some (.int (nI i))] [] m Q := by
  have tl : ∀ i, i ≤ K → i ≤ H → (i = K ∨ i = H ∨ ¬ m 79 (40 * 2 + i) = hf (m 69) i 2) → (∀ j, j < i → m 79 (40 * 2 + j) = hf (m 69) j 2) → J l g 2 mX12_judge 76 [some (rf g 68), some (.int (nI 2)), some (.int (nI i))] [] m Q := by
    intro i h1 h2 h3 h4
    have z := kk i h1 h2 h3 h4
    refine j_iload2 77 dX12_judge_76 rfl ?_
    refine j_aload0 78 dX12_judge_77 rfl ?_
    refine j_getR 81 dX12_judge_78 rfl fl_X12_37 rfl rfl ?_
    refine j_iload1 82 dX12_judge_81 rfl ?_
    refine j_iald 83 2 rfl (by decide) dX12_judge_82 rfl rfl ?_
    refine j_top hK ?_
    refine j_cmp_ne 100 86 dX12_judge_83 rfl rfl (fun h83 => ?_) (fun h83 => ?_)
    · refine j_iload2 101 dX12_judge_100 rfl ?_
      refine j_iret dX12_judge_101 rfl ?_
      first | (rw [if_pos ⟨(nI_eq (by omega) (by omega)).mp h83, (nI_eq (by omega) (by omega)).mp h93⟩] at z; exact z) | (rw [if_neg (fun q => h93 (by rw [q.2]))] at z; exact z) | (rw [if_neg (fun q => h83 (by rw [q.1]))] at z; exact z)
    · refine j_iload2 87 dX12_judge_86 rfl ?_
      refine j_aload0 88 dX12_judge_87 rfl ?_
      refine j_getR 91 dX12_judge_88 rfl fl_X12_7 rfl rfl ?_
      refine j_iconst 92 (v := 0) dX12_judge_91 rfl rfl ?_
      refine j_iald 93 0 rfl (by first | assumption | decide | omega) dX12_judge_92 rfl rfl ?_
      refine j_top hH ?_
      refine j_cmp_ne 100 96 dX12_judge_93 rfl rfl (fun h93 => ?_) (fun h93 => ?_)
      · refine j_iload2 101 dX12_judge_100 rfl ?_
        refine j_iret dX12_judge_101 rfl ?_
        first | (rw [if_pos ⟨(nI_eq (by omega) (by omega)).mp h83, (nI_eq (by omega) (by omega)).mp h93⟩] at z; exact z) | (rw [if_neg (fun q => h93 (by rw [q.2]))] at z; exact z) | (rw [if_neg (fun q => h83 (by rw [q.1]))] at z; exact z)
      · refine j_iconst 97 (v := -1) dX12_judge_96 rfl rfl ?_
        refine j_goto 101 dX12_judge_97 rfl ?_
        refine j_iret dX12_judge_101 rfl ?_
        first | (rw [if_pos ⟨(nI_eq (by omega) (by omega)).mp h83, (nI_eq (by omega) (by omega)).mp h93⟩] at z; exact z) | (rw [if_neg (fun q => h93 (by rw [q.2]))] at z; exact z) | (rw [if_neg (fun q => h83 (by rw [q.1]))] at z; exact z)
  intro k
  induction k with
  | zero =>
    intro i e hi ha
    have e : i = K := by omega
    refine j_iload2 31 dX12_judge_30 rfl ?_
    refine j_aload0 32 dX12_judge_31 rfl ?_
    refine j_getR 35 dX12_judge_32 rfl fl_X12_37 rfl rfl ?_
    refine j_iload1 36 dX12_judge_35 rfl ?_
    refine j_iald 37 2 rfl (by decide) dX12_judge_36 rfl rfl ?_
    refine j_top hK ?_
    refine j_cmp_ge 76 40 dX12_judge_37 rfl rfl (fun h37 => ?_) (fun h37 => absurd (by rw [e]; exact Int32.le_refl _) h37)
    exact tl i (by omega) hi (Or.inl e) ha
  | succ k ih =>
    intro i e hi ha
    have e2 : nI i + 1 = nI (i + 1) := nI_1 i
    refine j_iload2 31 dX12_judge_30 rfl ?_
    refine j_aload0 32 dX12_judge_31 rfl ?_
    refine j_getR 35 dX12_judge_32 rfl fl_X12_37 rfl rfl ?_
    refine j_iload1 36 dX12_judge_35 rfl ?_
    refine j_iald 37 2 rfl (by decide) dX12_judge_36 rfl rfl ?_
    refine j_top hK ?_
    refine j_cmp_ge 76 40 dX12_judge_37 rfl rfl (fun h37 => absurd h37 (nI_ge (a := i) (b := K) (by omega) (by omega))) (fun h37 => ?_)
    refine j_iload2 41 dX12_judge_40 rfl ?_
    refine j_aload0 42 dX12_judge_41 rfl ?_
    refine j_getR 45 dX12_judge_42 rfl fl_X12_7 rfl rfl ?_
    refine j_iconst 46 (v := 0) dX12_judge_45 rfl rfl ?_
    refine j_iald 47 0 rfl (by first | assumption | decide | omega) dX12_judge_46 rfl rfl ?_
    refine j_top hH ?_
    refine j_cmp_ge 76 50 dX12_judge_47 rfl rfl (fun h47 => ?_) (fun h47 => ?_)
    · first | exact tl i (by omega) hi (Or.inr (Or.inr h67)) ha | exact tl i (by omega) hi (Or.inr (Or.inl (by have := (nI_leI (by omega) (by omega)).mp h47; omega))) ha
    · have hlt : i < H := Nat.not_le.mp (fun q => h47 (nI_le q (by omega)))
      refine j_aload0 51 dX12_judge_50 rfl ?_
      refine j_getR 54 dX12_judge_51 rfl fl_X12_40 rfl rfl ?_
      refine j_bipush 56 (v := nI 40) dX12_judge_54 rfl rfl ?_
      refine j_iload1 57 dX12_judge_56 rfl ?_
      refine j_imulN 58 dX12_judge_57 rfl ?_
      refine j_iload2 59 dX12_judge_58 rfl ?_
      refine j_iaddN 60 dX12_judge_59 rfl ?_
      refine j_iald 61 (40 * 2 + i) rfl (show 40 * 2 + i < 160 by omega) dX12_judge_60 rfl rfl ?_
      refine j_aload0 62 dX12_judge_61 rfl ?_
      refine j_iload2 63 dX12_judge_62 rfl ?_
      refine j_iconst 64 (v := nI 2) dX12_judge_63 rfl rfl ?_
      refine j_vi2f 67 dX12_judge_64 rfl rfl cl_X12_146 rfl rfl (c_of m i 2 (by omega) (by decide)) ?_
      refine j_cmp_ne 76 70 dX12_judge_67 rfl rfl (fun h67 => ?_) (fun h67 => ?_)
      · first | exact tl i (by omega) hi (Or.inr (Or.inr h67)) ha | exact tl i (by omega) hi (Or.inr (Or.inl (by have := (nI_leI (by omega) (by omega)).mp h47; omega))) ha
      · refine j_iinc2 73 (1) dX12_judge_70 rfl rfl rfl rfl ?_
        refine j_goto 30 dX12_judge_73 rfl ?_
        rw [e2]
        exact ih (i + 1) (by omega) (by omega) (fun j hj => by
          by_cases q : j = i
          · rw [q]; exact h67
          · exact ha j (by omega))
set_option maxRecDepth 100000 in
theorem o_judge_2 {Q : Option Value → Mem → Prop} (m : Mem) (K H : Nat) (hb : ¬ m 65 2 = 0) (hK : m 66 2 = nI K) (h40 : K ≤ 40) (hH : m 9 9 = nI H) (h8 : H ≤ 8) (kk1 : ∀ i, i < min K H → ¬ m 63 i = m 14 i → (∀ j, j < i → m 63 j = m 14 j) → Q (some (.int (nI i))) m) (kk2 : (∀ j, j < min K H → m 63 j = m 14 j) → Q (some (.int (if K = H then -1 else nI (min K H)))) m) : JM l g 2 mX11_judge [rf g 0, .int (nI 2)] m (Q) := by
  refine JM_of (ls := [some (rf g 0), some (.int (nI 2)), none, none]) pn_X11 rfl rfl ?_
  have em : imin (m 66 2) (m 9 9) = nI (min K H) := by rw [hK, hH]; exact imin_N (by omega) (by omega)
  have t8 : min K H ≤ 8 := by omega
  have tl : (∀ j, j < min K H → m 63 j = m 14 j) → J l g 2 mX11_judge 81 [some (rf g 0), some (.int (nI 2)), some (.int (nI (min K H))), some (.int (nI (min K H)))] [] m Q := by
    intro ha
    have z := kk2 ha
    refine j_aload0 82 dX11_judge_81 rfl ?_
    refine j_getR 85 dX11_judge_82 rfl fl_X11_71 rfl rfl ?_
    refine j_iload1 86 dX11_judge_85 rfl ?_
    refine j_iald 87 2 rfl (by decide) dX11_judge_86 rfl rfl ?_
    refine j_top hK ?_
    refine j_aload0 88 dX11_judge_87 rfl ?_
    refine j_getR 91 dX11_judge_88 rfl fl_X11_35 rfl rfl ?_
    refine j_getI 94 dX11_judge_91 rfl fl_X11_116 rfl rfl ?_
    refine j_top hH ?_
    refine j_cmp_ne 101 97 dX11_judge_94 rfl rfl (fun h94 => ?_) (fun h94 => ?_)
    · refine j_iload2 102 dX11_judge_101 rfl ?_
      refine j_iret dX11_judge_102 rfl ?_
      first | (rw [if_pos ((nI_eq (by omega) (by omega)).mp h94)] at z; exact z) | (rw [if_neg (fun q => h94 (by rw [q]))] at z; exact z)
    · refine j_iconst 98 (v := -1) dX11_judge_97 rfl rfl ?_
      refine j_goto 102 dX11_judge_98 rfl ?_
      refine j_iret dX11_judge_102 rfl ?_
      first | (rw [if_pos ((nI_eq (by omega) (by omega)).mp h94)] at z; exact z) | (rw [if_neg (fun q => h94 (by rw [q]))] at z; exact z)
  refine j_iload1 1 dX11_judge_0 rfl ?_
  refine j_st1f 4 dX11_judge_1 rfl rfl cl_X11_230 rfl (c_isSheet m _) ?_
  refine j_if_ne_bz 14 7 dX11_judge_4 rfl rfl (fun h4 => ?_) (fun h4 => absurd (by decide) h4)
  refine j_aload0 15 dX11_judge_14 rfl ?_
  refine j_iload1 16 dX11_judge_15 rfl ?_
  refine j_vi1f 19 dX11_judge_16 rfl rfl cl_X11_233 rfl rfl (c_isMissing m 2 (by decide)) ?_
  refine j_if_eq_bz 29 22 dX11_judge_19 rfl rfl (fun h19 => ?_) (fun h19 => absurd h19 hb)
  refine j_aload0 30 dX11_judge_29 rfl ?_
  refine j_getR 33 dX11_judge_30 rfl fl_X11_71 rfl rfl ?_
  refine j_iload1 34 dX11_judge_33 rfl ?_
  refine j_iald 35 2 rfl (by decide) dX11_judge_34 rfl rfl ?_
  refine j_aload0 36 dX11_judge_35 rfl ?_
  refine j_getR 39 dX11_judge_36 rfl fl_X11_35 rfl rfl ?_
  refine j_getI 42 dX11_judge_39 rfl fl_X11_116 rfl rfl ?_
  refine j_mmin 45 dX11_judge_42 rfl rfl cl_X11_297 rfl ?_
  refine j_top em ?_
  refine j_istore2 46 dX11_judge_45 rfl rfl rfl ?_
  refine j_iconst 47 (v := 0) dX11_judge_46 rfl rfl ?_
  refine j_istore3 48 dX11_judge_47 rfl rfl rfl ?_
  exact lp_judge_2 m (min K H) t8 kk1 tl (min K H) 0 (Nat.zero_add _) (fun j hj => absurd hj (Nat.not_lt_zero j))
set_option maxRecDepth 100000 in
theorem p_judge_2 {Q : Option Value → Mem → Prop} (m : Mem) (K H : Nat) (hb : ¬ m 77 2 = 0) (hK : m 78 2 = nI K) (h40 : K ≤ 40) (hH : m 69 0 = nI H) (h8 : H ≤ 8) (kk : ∀ i, i ≤ K → i ≤ H → (i = K ∨ i = H ∨ ¬ m 79 (40 * 2 + i) = hf (m 69) i 2) → (∀ j, j < i → m 79 (40 * 2 + j) = hf (m 69) j 2) → Q (some (.int (if i = K ∧ i = H then -1 else nI i))) m) : JM l g 2 mX12_judge [rf g 68, .int (nI 2)] m (Q) := by
  refine JM_of (ls := [some (rf g 68), some (.int (nI 2)), none]) pn_X12 rfl rfl ?_
  refine j_iload1 1 dX12_judge_0 rfl ?_
  refine j_st1f 4 dX12_judge_1 rfl rfl cl_X12_243 rfl (c_misSheet m _) ?_
  refine j_if_ne_bz 13 7 dX12_judge_4 rfl rfl (fun h4 => ?_) (fun h4 => absurd (by decide) h4)
  refine j_aload0 14 dX12_judge_13 rfl ?_
  refine j_getR 17 dX12_judge_14 rfl fl_X12_34 rfl rfl ?_
  refine j_iload1 18 dX12_judge_17 rfl ?_
  refine j_iald 19 2 rfl (by decide) dX12_judge_18 rfl rfl ?_
  refine j_if_ne 28 22 dX12_judge_19 rfl rfl (fun h19 => ?_) (fun h19 => absurd h19 hb)
  refine j_iconst 29 (v := 0) dX12_judge_28 rfl rfl ?_
  refine j_istore2 30 dX12_judge_29 rfl rfl rfl ?_
  exact lm_judge_2 m K H hK h40 hH h8 kk K 0 (Nat.zero_add _) (Nat.zero_le _) (fun j hj => absurd hj (Nat.not_lt_zero j))
set_option maxRecDepth 100000 in
theorem lp_judge_3 {Q : Option Value → Mem → Prop} (m : Mem) (E : Nat) (hE : E ≤ 8) (kk1 : ∀ i, i < E → ¬ m 64 i = m 14 i → (∀ j, j < i → m 64 j = m 14 j) → Q (some (.int (nI i))) m) (kk2 : (∀ j, j < E → m 64 j = m 14 j) → J l g 2 mX11_judge 81 [some (rf g 0), some (.int (nI 3)), some (.int (nI E)), some (.int (nI E))] [] m Q) : ∀ (k i : Nat), i + k = E → (∀ j, j < i → m 64 j = m 14 j) → J l g 2 mX11_judge 48 [some (rf g 0), some (.int (nI 3)), some (.int (nI E)), some (.int (nI i))] [] m Q := by
  intro k
  induction k with
  | zero =>
    intro i e ha
    have e : i = E := by omega
    subst e
    refine j_iload3 49 dX11_judge_48 rfl ?_
    refine j_iload2 50 dX11_judge_49 rfl ?_
    refine j_cmp_ge 81 53 dX11_judge_50 rfl rfl (fun h50 => ?_) (fun h50 => absurd (Int32.le_refl _) h50)
    exact kk2 ha
  | succ k ih =>
    intro i e ha
    have e2 : nI i + 1 = nI (i + 1) := nI_1 i
    refine j_iload3 49 dX11_judge_48 rfl ?_
    refine j_iload2 50 dX11_judge_49 rfl ?_
    refine j_cmp_ge 81 53 dX11_judge_50 rfl rfl (fun h50 => absurd h50 (nI_ge (a := i) (b := E) (by omega) (by omega))) (fun h50 => ?_)
    refine j_aload0 54 dX11_judge_53 rfl ?_
    refine j_getR 57 dX11_judge_54 rfl fl_X11_64 rfl rfl ?_
    refine j_iload1 58 dX11_judge_57 rfl ?_
    refine j_aald 59 3 rfl (by decide) dX11_judge_58 rfl (by decide) ?_
    refine j_ref (b := 64) (by decide) ?_
    refine j_iload3 60 dX11_judge_59 rfl ?_
    refine j_iald 61 _ rfl (show i < 40 by omega) dX11_judge_60 rfl rfl ?_
    refine j_aload0 62 dX11_judge_61 rfl ?_
    refine j_getR 65 dX11_judge_62 rfl fl_X11_35 rfl rfl ?_
    refine j_getR 68 dX11_judge_65 rfl fl_X11_133 rfl rfl ?_
    refine j_iload3 69 dX11_judge_68 rfl ?_
    refine j_iald 70 _ rfl (show i < 8 by omega) dX11_judge_69 rfl rfl ?_
    refine j_cmp_eq 75 73 dX11_judge_70 rfl rfl (fun h70 => ?_) (fun h70 => ?_)
    · refine j_iinc3 78 (1) dX11_judge_75 rfl rfl rfl rfl ?_
      refine j_goto 48 dX11_judge_78 rfl ?_
      rw [e2]
      exact ih (i + 1) (by omega) (fun j hj => by
        by_cases q : j = i
        · rw [q]; exact h70
        · exact ha j (by omega))
    · refine j_iload3 74 dX11_judge_73 rfl ?_
      refine j_iret dX11_judge_74 rfl ?_
      exact kk1 i (by omega) h70 ha
set_option maxRecDepth 100000 in
theorem lm_judge_3 {Q : Option Value → Mem → Prop} (m : Mem) (K H : Nat) (hK : m 78 3 = nI K) (h40 : K ≤ 40) (hH : m 69 0 = nI H) (h8 : H ≤ 8) (kk : ∀ i, i ≤ K → i ≤ H → (i = K ∨ i = H ∨ ¬ m 79 (40 * 3 + i) = hf (m 69) i 2) → (∀ j, j < i → m 79 (40 * 3 + j) = hf (m 69) j 2) → Q (some (.int (if i = K ∧ i = H then -1 else nI i))) m) : ∀ (k i : Nat), i + k = K → i ≤ H → (∀ j, j < i → m 79 (40 * 3 + j) = hf (m 69) j 2) → J l g 2 mX12_judge 30 [some (rf g 68), some (.int (nI 3)), some (.int (nI i))] [] m Q := by
  have tl : ∀ i, i ≤ K → i ≤ H → (i = K ∨ i = H ∨ ¬ m 79 (40 * 3 + i) = hf (m 69) i 2) → (∀ j, j < i → m 79 (40 * 3 + j) = hf (m 69) j 2) → J l g 2 mX12_judge 76 [some (rf g 68), some (.int (nI 3)), some (.int (nI i))] [] m Q := by
    intro i h1 h2 h3 h4
    have z := kk i h1 h2 h3 h4
    refine j_iload2 77 dX12_judge_76 rfl ?_
    refine j_aload0 78 dX12_judge_77 rfl ?_
    refine j_getR 81 dX12_judge_78 rfl fl_X12_37 rfl rfl ?_
    refine j_iload1 82 dX12_judge_81 rfl ?_
    refine j_iald 83 3 rfl (by decide) dX12_judge_82 rfl rfl ?_
    refine j_top hK ?_
    refine j_cmp_ne 100 86 dX12_judge_83 rfl rfl (fun h83 => ?_) (fun h83 => ?_)
    · refine j_iload2 101 dX12_judge_100 rfl ?_
      refine j_iret dX12_judge_101 rfl ?_
      first | (rw [if_pos ⟨(nI_eq (by omega) (by omega)).mp h83, (nI_eq (by omega) (by omega)).mp h93⟩] at z; exact z) | (rw [if_neg (fun q => h93 (by rw [q.2]))] at z; exact z) | (rw [if_neg (fun q => h83 (by rw [q.1]))] at z; exact z)
    · refine j_iload2 87 dX12_judge_86 rfl ?_
      refine j_aload0 88 dX12_judge_87 rfl ?_
      refine j_getR 91 dX12_judge_88 rfl fl_X12_7 rfl rfl ?_
      refine j_iconst 92 (v := 0) dX12_judge_91 rfl rfl ?_
      refine j_iald 93 0 rfl (by first | assumption | decide | omega) dX12_judge_92 rfl rfl ?_
      refine j_top hH ?_
      refine j_cmp_ne 100 96 dX12_judge_93 rfl rfl (fun h93 => ?_) (fun h93 => ?_)
      · refine j_iload2 101 dX12_judge_100 rfl ?_
        refine j_iret dX12_judge_101 rfl ?_
        first | (rw [if_pos ⟨(nI_eq (by omega) (by omega)).mp h83, (nI_eq (by omega) (by omega)).mp h93⟩] at z; exact z) | (rw [if_neg (fun q => h93 (by rw [q.2]))] at z; exact z) | (rw [if_neg (fun q => h83 (by rw [q.1]))] at z; exact z)
      · refine j_iconst 97 (v := -1) dX12_judge_96 rfl rfl ?_
        refine j_goto 101 dX12_judge_97 rfl ?_
        refine j_iret dX12_judge_101 rfl ?_
        first | (rw [if_pos ⟨(nI_eq (by omega) (by omega)).mp h83, (nI_eq (by omega) (by omega)).mp h93⟩] at z; exact z) | (rw [if_neg (fun q => h93 (by rw [q.2]))] at z; exact z) | (rw [if_neg (fun q => h83 (by rw [q.1]))] at z; exact z)
  intro k
  induction k with
  | zero =>
    intro i e hi ha
    have e : i = K := by omega
    refine j_iload2 31 dX12_judge_30 rfl ?_
    refine j_aload0 32 dX12_judge_31 rfl ?_
    refine j_getR 35 dX12_judge_32 rfl fl_X12_37 rfl rfl ?_
    refine j_iload1 36 dX12_judge_35 rfl ?_
    refine j_iald 37 3 rfl (by decide) dX12_judge_36 rfl rfl ?_
    refine j_top hK ?_
    refine j_cmp_ge 76 40 dX12_judge_37 rfl rfl (fun h37 => ?_) (fun h37 => absurd (by rw [e]; exact Int32.le_refl _) h37)
    exact tl i (by omega) hi (Or.inl e) ha
  | succ k ih =>
    intro i e hi ha
    have e2 : nI i + 1 = nI (i + 1) := nI_1 i
    refine j_iload2 31 dX12_judge_30 rfl ?_
    refine j_aload0 32 dX12_judge_31 rfl ?_
    refine j_getR 35 dX12_judge_32 rfl fl_X12_37 rfl rfl ?_
    refine j_iload1 36 dX12_judge_35 rfl ?_
    refine j_iald 37 3 rfl (by decide) dX12_judge_36 rfl rfl ?_
    refine j_top hK ?_
    refine j_cmp_ge 76 40 dX12_judge_37 rfl rfl (fun h37 => absurd h37 (nI_ge (a := i) (b := K) (by omega) (by omega))) (fun h37 => ?_)
    refine j_iload2 41 dX12_judge_40 rfl ?_
    refine j_aload0 42 dX12_judge_41 rfl ?_
    refine j_getR 45 dX12_judge_42 rfl fl_X12_7 rfl rfl ?_
    refine j_iconst 46 (v := 0) dX12_judge_45 rfl rfl ?_
    refine j_iald 47 0 rfl (by first | assumption | decide | omega) dX12_judge_46 rfl rfl ?_
    refine j_top hH ?_
    refine j_cmp_ge 76 50 dX12_judge_47 rfl rfl (fun h47 => ?_) (fun h47 => ?_)
    · first | exact tl i (by omega) hi (Or.inr (Or.inr h67)) ha | exact tl i (by omega) hi (Or.inr (Or.inl (by have := (nI_leI (by omega) (by omega)).mp h47; omega))) ha
    · have hlt : i < H := Nat.not_le.mp (fun q => h47 (nI_le q (by omega)))
      refine j_aload0 51 dX12_judge_50 rfl ?_
      refine j_getR 54 dX12_judge_51 rfl fl_X12_40 rfl rfl ?_
      refine j_bipush 56 (v := nI 40) dX12_judge_54 rfl rfl ?_
      refine j_iload1 57 dX12_judge_56 rfl ?_
      refine j_imulN 58 dX12_judge_57 rfl ?_
      refine j_iload2 59 dX12_judge_58 rfl ?_
      refine j_iaddN 60 dX12_judge_59 rfl ?_
      refine j_iald 61 (40 * 3 + i) rfl (show 40 * 3 + i < 160 by omega) dX12_judge_60 rfl rfl ?_
      refine j_aload0 62 dX12_judge_61 rfl ?_
      refine j_iload2 63 dX12_judge_62 rfl ?_
      refine j_iconst 64 (v := nI 2) dX12_judge_63 rfl rfl ?_
      refine j_vi2f 67 dX12_judge_64 rfl rfl cl_X12_146 rfl rfl (c_of m i 2 (by omega) (by decide)) ?_
      refine j_cmp_ne 76 70 dX12_judge_67 rfl rfl (fun h67 => ?_) (fun h67 => ?_)
      · first | exact tl i (by omega) hi (Or.inr (Or.inr h67)) ha | exact tl i (by omega) hi (Or.inr (Or.inl (by have := (nI_leI (by omega) (by omega)).mp h47; omega))) ha
      · refine j_iinc2 73 (1) dX12_judge_70 rfl rfl rfl rfl ?_
        refine j_goto 30 dX12_judge_73 rfl ?_
        rw [e2]
        exact ih (i + 1) (by omega) (by omega) (fun j hj => by
          by_cases q : j = i
          · rw [q]; exact h67
          · exact ha j (by omega))
set_option maxRecDepth 100000 in
theorem o_judge_3 {Q : Option Value → Mem → Prop} (m : Mem) (K H : Nat) (hb : ¬ m 65 3 = 0) (hK : m 66 3 = nI K) (h40 : K ≤ 40) (hH : m 9 9 = nI H) (h8 : H ≤ 8) (kk1 : ∀ i, i < min K H → ¬ m 64 i = m 14 i → (∀ j, j < i → m 64 j = m 14 j) → Q (some (.int (nI i))) m) (kk2 : (∀ j, j < min K H → m 64 j = m 14 j) → Q (some (.int (if K = H then -1 else nI (min K H)))) m) : JM l g 2 mX11_judge [rf g 0, .int (nI 3)] m (Q) := by
  refine JM_of (ls := [some (rf g 0), some (.int (nI 3)), none, none]) pn_X11 rfl rfl ?_
  have em : imin (m 66 3) (m 9 9) = nI (min K H) := by rw [hK, hH]; exact imin_N (by omega) (by omega)
  have t8 : min K H ≤ 8 := by omega
  have tl : (∀ j, j < min K H → m 64 j = m 14 j) → J l g 2 mX11_judge 81 [some (rf g 0), some (.int (nI 3)), some (.int (nI (min K H))), some (.int (nI (min K H)))] [] m Q := by
    intro ha
    have z := kk2 ha
    refine j_aload0 82 dX11_judge_81 rfl ?_
    refine j_getR 85 dX11_judge_82 rfl fl_X11_71 rfl rfl ?_
    refine j_iload1 86 dX11_judge_85 rfl ?_
    refine j_iald 87 3 rfl (by decide) dX11_judge_86 rfl rfl ?_
    refine j_top hK ?_
    refine j_aload0 88 dX11_judge_87 rfl ?_
    refine j_getR 91 dX11_judge_88 rfl fl_X11_35 rfl rfl ?_
    refine j_getI 94 dX11_judge_91 rfl fl_X11_116 rfl rfl ?_
    refine j_top hH ?_
    refine j_cmp_ne 101 97 dX11_judge_94 rfl rfl (fun h94 => ?_) (fun h94 => ?_)
    · refine j_iload2 102 dX11_judge_101 rfl ?_
      refine j_iret dX11_judge_102 rfl ?_
      first | (rw [if_pos ((nI_eq (by omega) (by omega)).mp h94)] at z; exact z) | (rw [if_neg (fun q => h94 (by rw [q]))] at z; exact z)
    · refine j_iconst 98 (v := -1) dX11_judge_97 rfl rfl ?_
      refine j_goto 102 dX11_judge_98 rfl ?_
      refine j_iret dX11_judge_102 rfl ?_
      first | (rw [if_pos ((nI_eq (by omega) (by omega)).mp h94)] at z; exact z) | (rw [if_neg (fun q => h94 (by rw [q]))] at z; exact z)
  refine j_iload1 1 dX11_judge_0 rfl ?_
  refine j_st1f 4 dX11_judge_1 rfl rfl cl_X11_230 rfl (c_isSheet m _) ?_
  refine j_if_ne_bz 14 7 dX11_judge_4 rfl rfl (fun h4 => ?_) (fun h4 => absurd (by decide) h4)
  refine j_aload0 15 dX11_judge_14 rfl ?_
  refine j_iload1 16 dX11_judge_15 rfl ?_
  refine j_vi1f 19 dX11_judge_16 rfl rfl cl_X11_233 rfl rfl (c_isMissing m 3 (by decide)) ?_
  refine j_if_eq_bz 29 22 dX11_judge_19 rfl rfl (fun h19 => ?_) (fun h19 => absurd h19 hb)
  refine j_aload0 30 dX11_judge_29 rfl ?_
  refine j_getR 33 dX11_judge_30 rfl fl_X11_71 rfl rfl ?_
  refine j_iload1 34 dX11_judge_33 rfl ?_
  refine j_iald 35 3 rfl (by decide) dX11_judge_34 rfl rfl ?_
  refine j_aload0 36 dX11_judge_35 rfl ?_
  refine j_getR 39 dX11_judge_36 rfl fl_X11_35 rfl rfl ?_
  refine j_getI 42 dX11_judge_39 rfl fl_X11_116 rfl rfl ?_
  refine j_mmin 45 dX11_judge_42 rfl rfl cl_X11_297 rfl ?_
  refine j_top em ?_
  refine j_istore2 46 dX11_judge_45 rfl rfl rfl ?_
  refine j_iconst 47 (v := 0) dX11_judge_46 rfl rfl ?_
  refine j_istore3 48 dX11_judge_47 rfl rfl rfl ?_
  exact lp_judge_3 m (min K H) t8 kk1 tl (min K H) 0 (Nat.zero_add _) (fun j hj => absurd hj (Nat.not_lt_zero j))
set_option maxRecDepth 100000 in
theorem p_judge_3 {Q : Option Value → Mem → Prop} (m : Mem) (K H : Nat) (hb : ¬ m 77 3 = 0) (hK : m 78 3 = nI K) (h40 : K ≤ 40) (hH : m 69 0 = nI H) (h8 : H ≤ 8) (kk : ∀ i, i ≤ K → i ≤ H → (i = K ∨ i = H ∨ ¬ m 79 (40 * 3 + i) = hf (m 69) i 2) → (∀ j, j < i → m 79 (40 * 3 + j) = hf (m 69) j 2) → Q (some (.int (if i = K ∧ i = H then -1 else nI i))) m) : JM l g 2 mX12_judge [rf g 68, .int (nI 3)] m (Q) := by
  refine JM_of (ls := [some (rf g 68), some (.int (nI 3)), none]) pn_X12 rfl rfl ?_
  refine j_iload1 1 dX12_judge_0 rfl ?_
  refine j_st1f 4 dX12_judge_1 rfl rfl cl_X12_243 rfl (c_misSheet m _) ?_
  refine j_if_ne_bz 13 7 dX12_judge_4 rfl rfl (fun h4 => ?_) (fun h4 => absurd (by decide) h4)
  refine j_aload0 14 dX12_judge_13 rfl ?_
  refine j_getR 17 dX12_judge_14 rfl fl_X12_34 rfl rfl ?_
  refine j_iload1 18 dX12_judge_17 rfl ?_
  refine j_iald 19 3 rfl (by decide) dX12_judge_18 rfl rfl ?_
  refine j_if_ne 28 22 dX12_judge_19 rfl rfl (fun h19 => ?_) (fun h19 => absurd h19 hb)
  refine j_iconst 29 (v := 0) dX12_judge_28 rfl rfl ?_
  refine j_istore2 30 dX12_judge_29 rfl rfl rfl ?_
  exact lm_judge_3 m K H hK h40 hH h8 kk K 0 (Nat.zero_add _) (Nat.zero_le _) (fun j hj => absurd hj (Nat.not_lt_zero j))
theorem op_judge {m : Mem} (I : INV m) (a : Int32) : OPr l g mX11_judge mX12_judge [.int a] m := by
  obtain ⟨⟨wf, hd, hT, hP⟩, -, -, -, hSH⟩ := id I
  by_cases c : 0 ≤ a ∧ a ≤ 3
  · obtain ⟨s, hs, rfl⟩ := (rngN 3 (by decide)).mp c
    have hs : s < 4 := by omega
    obtain ⟨a1, a2, a3, ⟨K, hK, eK⟩, a5⟩ := hSH s hs
    by_cases hb : m 77 s = 0
    · exact OPr_err I (by decide) (by decide) (by decide) (e_judge1 m s hs (a1.trans hb)) (f_judge1 _ s hs (by rw [errC_o (by decide)]; exact hb))
    · have wn := wf.n
      have n8 := wn.1
      have e9 : m 9 9 = nI (hn (m 69)) := hT.1.trans wn.2
      have lt : ∀ j, j < 8 → m 14 j = hf (m 69) j 2 := fun j hj => hT.2.2.2.2.2.2.2 j hj 2 (by decide)
      have tr : ∀ j, j < min K (hn (m 69)) → (m (61 + s) j = m 14 j ↔ m 79 (40 * s + j) = hf (m 69) j 2) := fun j hj => by rw [lt j (by omega), a5 j (by omega)]
      rcases findK (fun i => m (61 + s) i = m 14 i) (min K (hn (m 69))) with ⟨N, hN, hy, hno⟩ | hno
      · have u1 : ∀ i, ¬ m (61 + s) i = m 14 i → (∀ j, j < i → m (61 + s) j = m 14 j) → i = N := fun i p1 p2 => by
          rcases (show i < N ∨ i = N ∨ N < i by omega) with z | z | z
          · exact absurd (hno i z) p1
          · exact z
          · exact absurd (p2 N z) hy
        have u2 : ∀ i, i ≤ K → i ≤ hn (m 69) → (i = K ∨ i = hn (m 69) ∨ ¬ m 79 (40 * s + i) = hf (m 69) i 2) → (∀ j, j < i → m 79 (40 * s + j) = hf (m 69) j 2) → (if i = K ∧ i = hn (m 69) then (-1 : Int32) else nI i) = nI N := fun i i1 i2 p1 p2 => by
          have e : i = N := by
            rcases (show i < N ∨ i = N ∨ N < i by omega) with z | z | z
            · rcases p1 with q | q | q
              · omega
              · omega
              · exact absurd ((tr i (by omega)).mp (hno i z)) q
            · exact z
            · exact absurd ((tr N hN).mpr (p2 N z)) hy
          rw [if_neg (by omega), e]
        rcases (show s = 0 ∨ s = 1 ∨ s = 2 ∨ s = 3 by omega) with rfl | rfl | rfl | rfl
        · refine ⟨2, 2, nI N, fun m' => m' = m, by decide, by decide, o_judge_0 m K _ (by rw [a1]; exact hb) (a2.trans eK) (by omega) e9 n8 (fun i _ p1 p2 => ⟨by rw [u1 i p1 p2], rfl⟩) (fun q => absurd (q N hN) hy), fun m' e => ?_⟩
          subst e
          exact p_judge_0 m' K _ hb eK (by omega) wn.2 n8 (fun i i1 i2 p1 p2 => ⟨by rw [u2 i i1 i2 p1 p2], I⟩)
        · refine ⟨2, 2, nI N, fun m' => m' = m, by decide, by decide, o_judge_1 m K _ (by rw [a1]; exact hb) (a2.trans eK) (by omega) e9 n8 (fun i _ p1 p2 => ⟨by rw [u1 i p1 p2], rfl⟩) (fun q => absurd (q N hN) hy), fun m' e => ?_⟩
          subst e
          exact p_judge_1 m' K _ hb eK (by omega) wn.2 n8 (fun i i1 i2 p1 p2 => ⟨by rw [u2 i i1 i2 p1 p2], I⟩)
        · refine ⟨2, 2, nI N, fun m' => m' = m, by decide, by decide, o_judge_2 m K _ (by rw [a1]; exact hb) (a2.trans eK) (by omega) e9 n8 (fun i _ p1 p2 => ⟨by rw [u1 i p1 p2], rfl⟩) (fun q => absurd (q N hN) hy), fun m' e => ?_⟩
          subst e
          exact p_judge_2 m' K _ hb eK (by omega) wn.2 n8 (fun i i1 i2 p1 p2 => ⟨by rw [u2 i i1 i2 p1 p2], I⟩)
        · refine ⟨2, 2, nI N, fun m' => m' = m, by decide, by decide, o_judge_3 m K _ (by rw [a1]; exact hb) (a2.trans eK) (by omega) e9 n8 (fun i _ p1 p2 => ⟨by rw [u1 i p1 p2], rfl⟩) (fun q => absurd (q N hN) hy), fun m' e => ?_⟩
          subst e
          exact p_judge_3 m' K _ hb eK (by omega) wn.2 n8 (fun i i1 i2 p1 p2 => ⟨by rw [u2 i i1 i2 p1 p2], I⟩)
      · have u2 : ∀ i, i ≤ K → i ≤ hn (m 69) → (i = K ∨ i = hn (m 69) ∨ ¬ m 79 (40 * s + i) = hf (m 69) i 2) → (∀ j, j < i → m 79 (40 * s + j) = hf (m 69) j 2) → (if i = K ∧ i = hn (m 69) then (-1 : Int32) else nI i) = (if K = hn (m 69) then (-1 : Int32) else nI (min K (hn (m 69)))) := fun i i1 i2 p1 p2 => by
          have e : i = min K (hn (m 69)) := by
            rcases p1 with q | q | q
            · omega
            · omega
            · by_cases z : i < min K (hn (m 69))
              · exact absurd ((tr i z).mp (hno i z)) q
              · omega
          by_cases q : K = hn (m 69)
          · rw [if_pos q, if_pos (by omega)]
          · rw [if_neg q, if_neg (by omega), e]
        rcases (show s = 0 ∨ s = 1 ∨ s = 2 ∨ s = 3 by omega) with rfl | rfl | rfl | rfl
        · refine ⟨2, 2, (if K = hn (m 69) then (-1 : Int32) else nI (min K (hn (m 69)))), fun m' => m' = m, by decide, by decide, o_judge_0 m K _ (by rw [a1]; exact hb) (a2.trans eK) (by omega) e9 n8 (fun i hi p1 p2 => absurd (hno i hi) p1) (fun q => ⟨rfl, rfl⟩), fun m' e => ?_⟩
          subst e
          exact p_judge_0 m' K _ hb eK (by omega) wn.2 n8 (fun i i1 i2 p1 p2 => ⟨by rw [u2 i i1 i2 p1 p2], I⟩)
        · refine ⟨2, 2, (if K = hn (m 69) then (-1 : Int32) else nI (min K (hn (m 69)))), fun m' => m' = m, by decide, by decide, o_judge_1 m K _ (by rw [a1]; exact hb) (a2.trans eK) (by omega) e9 n8 (fun i hi p1 p2 => absurd (hno i hi) p1) (fun q => ⟨rfl, rfl⟩), fun m' e => ?_⟩
          subst e
          exact p_judge_1 m' K _ hb eK (by omega) wn.2 n8 (fun i i1 i2 p1 p2 => ⟨by rw [u2 i i1 i2 p1 p2], I⟩)
        · refine ⟨2, 2, (if K = hn (m 69) then (-1 : Int32) else nI (min K (hn (m 69)))), fun m' => m' = m, by decide, by decide, o_judge_2 m K _ (by rw [a1]; exact hb) (a2.trans eK) (by omega) e9 n8 (fun i hi p1 p2 => absurd (hno i hi) p1) (fun q => ⟨rfl, rfl⟩), fun m' e => ?_⟩
          subst e
          exact p_judge_2 m' K _ hb eK (by omega) wn.2 n8 (fun i i1 i2 p1 p2 => ⟨by rw [u2 i i1 i2 p1 p2], I⟩)
        · refine ⟨2, 2, (if K = hn (m 69) then (-1 : Int32) else nI (min K (hn (m 69)))), fun m' => m' = m, by decide, by decide, o_judge_3 m K _ (by rw [a1]; exact hb) (a2.trans eK) (by omega) e9 n8 (fun i hi p1 p2 => absurd (hno i hi) p1) (fun q => ⟨rfl, rfl⟩), fun m' e => ?_⟩
          subst e
          exact p_judge_3 m' K _ hb eK (by omega) wn.2 n8 (fun i i1 i2 p1 p2 => ⟨by rw [u2 i i1 i2 p1 p2], I⟩)
  · exact OPr_err I (by decide) (by decide) (by decide) (e_judge0 m a c) (f_judge0 _ a c)
end O22
