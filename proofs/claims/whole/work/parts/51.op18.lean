/-! sunFor, swap -/
theorem glv {G q v : Int32} (hG : nb G 100000) (hq : nb q 100000) (hv : nb v 10000) : G - q < v ↔ G < q + v := by
  obtain ⟨a, ha, rfl⟩ := hG
  obtain ⟨b, hb, rfl⟩ := hq
  obtain ⟨c, hc, rfl⟩ := hv
  rw [Int32.lt_iff_toInt_lt, pk_sub_toInt (by omega) (by omega), nI_toInt (by omega), nI_add, nI_ltI (by omega) (by omega)]
  omega
theorem WF_lot {d : Nat → Int32} (w : WF d) {h : Nat} {x : Int32} (hh : h < 8) (hx : nb x 16) : WF (upd1 d (40 + 6 * h + 2) x) := by
  refine WF_heir' w (h := h) (fun k hk => if_neg (by omega)) hh ?_
  obtain ⟨a0, a1, a2, a3, a4, a5, a6⟩ := w.hw hh
  have o : ∀ r, r ≠ 2 → upd1 d (40 + 6 * h + 2) x (40 + 6 * h + r) = d (40 + 6 * h + r) := fun r hr => if_neg (by omega)
  have e2 : upd1 d (40 + 6 * h + 2) x (40 + 6 * h + 2) = x := if_pos rfl
  refine ⟨by show nb (upd1 d (40 + 6 * h + 2) x (40 + 6 * h + 0)) 7; rw [o 0 (by decide)]; exact a0, by show nb (upd1 d (40 + 6 * h + 2) x (40 + 6 * h + 1)) 10; rw [o 1 (by decide)]; exact a1, by show nb (upd1 d (40 + 6 * h + 2) x (40 + 6 * h + 2)) 16; rw [e2]; exact hx, by show nb (upd1 d (40 + 6 * h + 2) x (40 + 6 * h + 3)) 100; rw [o 3 (by decide)]; exact a3, fun q => ?_, fun q => ?_, by show nb (upd1 d (40 + 6 * h + 2) x (40 + 6 * h + 5)) 10000; rw [o 5 (by decide)]; exact a6⟩
  · have q : upd1 d (40 + 6 * h + 2) x (40 + 6 * h + 3) = 0 := q
    rw [o 3 (by decide)] at q
    show nb (upd1 d (40 + 6 * h + 2) x (40 + 6 * h + 4)) 16
    rw [o 4 (by decide)]
    exact a4 q
  · have q : upd1 d (40 + 6 * h + 2) x (40 + 6 * h + 3) ≠ 0 := q
    rw [o 3 (by decide)] at q
    show upd1 d (40 + 6 * h + 2) x (40 + 6 * h + 4) = -1
    rw [o 4 (by decide)]
    exact a5 q
def swD (d : Nat → Int32) (a b : Nat) : Nat → Int32 := upd1 (upd1 d (40 + 6 * a + 2) (hf d b 2)) (40 + 6 * b + 2) (hf d a 2)
theorem swD_o {d : Nat → Int32} {a b k : Nat} (h1 : k ≠ 40 + 6 * a + 2) (h2 : k ≠ 40 + 6 * b + 2) : swD d a b k = d k := by
  unfold swD upd1
  rw [if_neg h2, if_neg h1]
theorem WF_swD {d : Nat → Int32} (w : WF d) {a b : Nat} (ha : a < 8) (hb : b < 8) : WF (swD d a b) := WF_lot (WF_lot w ha (w.hw hb).2.2.1) hb (w.hw ha).2.2.1
def scJ (V F : Nat → Int32) (s : Nat) (b a : Int32) : Nat → Int32
  | 0 => a
  | k + 1 => if V (s + k) ≤ scV V s b k then scJ V F s b a k else F (s + k)
theorem sj_f {V F : Nat → Int32} {s k : Nat} {b a : Int32} (q : V (s + k) ≤ scV V s b k) : scV V s b (k + 1) = scV V s b k ∧ scJ V F s b a (k + 1) = scJ V F s b a k := ⟨if_pos q, if_pos q⟩
theorem sj_t {V F : Nat → Int32} {s k : Nat} {b a : Int32} (q : ¬ V (s + k) ≤ scV V s b k) : scV V s b (k + 1) = V (s + k) ∧ scJ V F s b a (k + 1) = F (s + k) := ⟨if_neg q, if_neg q⟩
def tnF (a : Nat) (j : Nat) : Int32 := nI (10 * a + j)
def swO (U : Nat → Nat → Int32) (N : Nat) (b : Int32) : Nat → Int32 × Int32
  | 0 => (b, -1)
  | a + 1 => (scV (U a) (a + 1) (swO U N b a).1 (N - (a + 1)), scJ (U a) (tnF a) (a + 1) (swO U N b a).1 (swO U N b a).2 (N - (a + 1)))
section O18
variable {l : Launch} {g : Gv}
set_option maxRecDepth 100000 in
theorem lp_sunFor {Q : Option Value → Mem → Prop} (d : Nat → Int32) (w : WF d) (s n : Nat) (hS : s < 16) (hn : n ≤ 30) (v : Int32) (m0 : Mem) (hT0 : TR 9 m0 d) (hP : PR 36 m0 d) (P : Nat → Prop) (hp : ∀ i, i < 10 → (P i ↔ ¬ itD n (upd1 d (8 + s) (nI i)) 4 - d 4 < v)) (kk1 : ∀ j m', j < 10 → P j → (∀ i, i < j → ¬ P i) → Sm thS m0 m' → Q (some (.int (nI j))) m') (kk2 : (∀ i, i < 10 → ¬ P i) → ∀ m', Sm thS m0 m' → Q (some (.int (-1000000002))) (errC 2 m')) : ∀ (k j : Nat) (m : Mem), j + k = 10 → (∀ i, i < j → ¬ P i) → Sm thS m0 m → J l g 6 mX11_sunFor 38 [some (rf g 0), some (.int (nI s)), some (.int v), some (.int (nI n)), some (.int (nI j))] [] m Q := by
  intro k
  induction k with
  | zero =>
    intro j m e hno hs
    have e : j = 10 := by omega
    subst e
    refine j_iload4 40 dX11_sunFor_38 rfl ?_
    refine j_bipush 42 (v := 9) dX11_sunFor_40 rfl rfl ?_
    refine j_cmp_gt 100 45 dX11_sunFor_42 rfl rfl (fun h42 => ?_) (fun h42 => absurd (by decide) h42)
    refine j_aload0 101 dX11_sunFor_100 rfl ?_
    refine j_ldc 103 dX11_sunFor_101 rfl kc_X11_223 ?_
    refine j_vi1f 106 dX11_sunFor_103 rfl rfl cl_X11_82 rfl rfl (c_err2 m) ?_
    refine j_iret dX11_sunFor_106 rfl ?_
    exact kk2 hno m hs
  | succ k ih =>
    intro j m e hno hs
    have e2 : nI j + 1 = nI (j + 1) := nI_1 j
    have w1 := WF_sun' w (i := s) (v := nI j) hS ⟨j, by omega, rfl⟩
    have oe : ∀ k, 88 ≤ k → upd1 d (8 + s) (nI j) k = d k := fun k hk => if_neg (by omega)
    refine j_iload4 40 dX11_sunFor_38 rfl ?_
    refine j_bipush 42 (v := 9) dX11_sunFor_40 rfl rfl ?_
    refine j_cmp_gt 100 45 dX11_sunFor_42 rfl rfl (fun h42 => absurd h42 (nI_nlt (a := 9) (b := j) (by omega) (by decide))) (fun h42 => ?_)
    refine j_aload0 46 dX11_sunFor_45 rfl ?_
    refine j_vi0w 49 dX11_sunFor_46 rfl rfl cl_X11_217 rfl rfl (c_think m) (fun m46 q46 => ?_)
    have s1 : Sm thS m0 m46 := hs.trans (q46.2.mono (by decide))
    obtain ⟨l0, l1⟩ := LR2 hP (s1 39 (by decide)) (s1 40 (by decide)) (s1 43 (by decide)) (s1 44 (by decide))
    refine j_aload0 50 dX11_sunFor_49 rfl ?_
    refine j_getR 53 dX11_sunFor_50 rfl fl_X11_39 rfl rfl ?_
    refine j_getR 56 dX11_sunFor_53 rfl fl_X11_90 rfl rfl ?_
    refine j_iload1 57 dX11_sunFor_56 rfl ?_
    refine j_iload4 59 dX11_sunFor_57 rfl ?_
    refine j_iast 60 _ rfl hS dX11_sunFor_59 rfl rfl ?_
    refine j_aload0 61 dX11_sunFor_60 rfl ?_
    refine j_getR 64 dX11_sunFor_61 rfl fl_X11_39 rfl rfl ?_
    refine j_iload3 65 dX11_sunFor_64 rfl ?_
    refine j_aload0 66 dX11_sunFor_65 rfl ?_
    refine j_getR 69 dX11_sunFor_66 rfl fl_X11_48 rfl rfl ?_
    refine j_vi2w 72 dX11_sunFor_69 rfl rfl cl_X11_205 rfl rfl (c_goDays_18 (up2 m46 19 s (nI j)) (upd1 d (8 + s) (nI j)) n (by omega) w1 (TR_sun (q46.1 d (thT hs hT0)) hS) (LR_congr (by decide) l0 (up2_r (by decide)) (up2_r (by decide)) oe) (LR_congr (by decide) l1 (up2_r (by decide)) (up2_r (by decide)) oe)) (fun m69 q69 => ?_)
    have s2 : Sm thS m0 m69 := (s1.up (by decide)).trans (q69.2.mono (by decide))
    have g1 : m69 18 12 = itD n (upd1 d (8 + s) (nI j)) 4 := q69.1.2.2.2.1
    have g2 : m69 9 12 = d 4 := (thT s2 hT0).2.2.2.1
    refine j_aload0 73 dX11_sunFor_72 rfl ?_
    refine j_getR 76 dX11_sunFor_73 rfl fl_X11_39 rfl rfl ?_
    refine j_getI 79 dX11_sunFor_76 rfl fl_X11_110 rfl rfl ?_
    refine j_aload0 80 dX11_sunFor_79 rfl ?_
    refine j_getR 83 dX11_sunFor_80 rfl fl_X11_35 rfl rfl ?_
    refine j_getI 86 dX11_sunFor_83 rfl fl_X11_110 rfl rfl ?_
    refine j_isub 87 dX11_sunFor_86 rfl ?_
    rw [g1, g2]
    refine j_iload2 88 dX11_sunFor_87 rfl ?_
    refine j_cmp_lt 94 91 dX11_sunFor_88 rfl rfl (fun h88 => ?_) (fun h88 => ?_)
    · refine j_iinc4 97 (1) dX11_sunFor_94 rfl rfl rfl rfl ?_
      refine j_goto 38 dX11_sunFor_97 rfl ?_
      rw [e2]
      exact ih (j + 1) m69 (by omega) (fun i hi => by
        by_cases q : i = j
        · rw [q]; exact fun z => (hp j (by omega)).mp z h88
        · exact hno i (by omega)) s2
    · refine j_iload4 93 dX11_sunFor_91 rfl ?_
      refine j_iret dX11_sunFor_93 rfl ?_
      exact kk1 j m69 (by omega) ((hp j (by omega)).mpr h88) hno s2
set_option maxRecDepth 100000 in
theorem lm_sunFor {Q : Option Value → Mem → Prop} (d a0 : Nat → Int32) (w : WF d) (hd : nb (d 1) 10000) (s n : Nat) (hS : s < 16) (hn : n ≤ 30) (v : Int32) (m0 : Mem) (h71 : m0 71 = rst d a0) (P : Nat → Prop) (hp : ∀ i, i < 10 → (P i ↔ ¬ itD n (upd1 d (8 + s) (nI i)) 4 < d 4 + v)) (kk1 : ∀ j m', j < 10 → P j → (∀ i, i < j → ¬ P i) → m' 69 = d → Sm [69, 73, 75] m0 m' → Q (some (.int (nI j))) m') (kk2 : (∀ i, i < 10 → ¬ P i) → ∀ m', m' 69 = d → Sm [69, 73, 75] m0 m' → Q (some (.int (-1000000002))) (errM 2 m')) : ∀ (k j : Nat) (m : Mem), j + k = 10 → (∀ i, i < j → ¬ P i) → m 69 = d → Sm [69, 73, 75] m0 m → J l g 7 mX12_sunFor 44 [some (rf g 68), some (.int (nI s)), some (.int v), some (.int (nI n)), some (.int (nI j))] [] m Q := by
  intro k
  induction k with
  | zero =>
    intro j m e hno hm hs
    have e : j = 10 := by omega
    subst e
    refine j_iload4 46 dX12_sunFor_44 rfl ?_
    refine j_bipush 48 (v := 9) dX12_sunFor_46 rfl rfl ?_
    refine j_cmp_gt 88 51 dX12_sunFor_48 rfl rfl (fun h48 => ?_) (fun h48 => absurd (by decide) h48)
    refine j_aload0 89 dX12_sunFor_88 rfl ?_
    refine j_iconst 90 (v := 2) dX12_sunFor_89 rfl rfl ?_
    refine j_vi1f 93 dX12_sunFor_90 rfl rfl cl_X12_126 rfl rfl (c_finds2 m) ?_
    refine j_iret dX12_sunFor_93 rfl ?_
    exact kk2 hno m hm hs
  | succ k ih =>
    intro j m e hno hm hs
    have e2 : nI j + 1 = nI (j + 1) := nI_1 j
    have r69 : up2 m 69 (8 + s) (nI j) 69 = upd1 d (8 + s) (nI j) := by rw [up2_row69, hm]
    have w1 := WF_sun' w (i := s) (v := nI j) hS ⟨j, by omega, rfl⟩
    have d1 : upd1 d (8 + s) (nI j) 1 = d 1 := if_neg (by omega)
    have hj : 8 + s < 260 := by omega
    refine j_iload4 46 dX12_sunFor_44 rfl ?_
    refine j_bipush 48 (v := 9) dX12_sunFor_46 rfl rfl ?_
    refine j_cmp_gt 88 51 dX12_sunFor_48 rfl rfl (fun h48 => absurd h48 (nI_nlt (a := 9) (b := j) (by omega) (by decide))) (fun h48 => ?_)
    refine j_aload0 52 dX12_sunFor_51 rfl ?_
    refine j_getR 55 dX12_sunFor_52 rfl fl_X12_7 rfl rfl ?_
    refine j_bipush 57 (v := nI 8) dX12_sunFor_55 rfl rfl ?_
    refine j_iload1 58 dX12_sunFor_57 rfl ?_
    refine j_iaddN 59 dX12_sunFor_58 rfl ?_
    refine j_iload4 61 dX12_sunFor_59 rfl ?_
    refine j_iast 62 (8 + s) rfl hj dX12_sunFor_61 rfl rfl ?_
    refine j_aload0 63 dX12_sunFor_62 rfl ?_
    refine j_iload3 64 dX12_sunFor_63 rfl ?_
    refine j_iconst 65 (v := nI 4) dX12_sunFor_64 rfl rfl ?_
    refine j_vi2s 68 dX12_sunFor_65 rfl rfl cl_X12_232 rfl rfl (c_behind (up2 m 69 (8 + s) (nI j)) n 4 (by omega) (by omega) (by rw [r69]; exact w1) (by rw [r69, d1]; exact nb_up hd (by decide))) (fun m65 q65 => ?_)
    have z69 : m65 69 = d := by rw [q65.1, r69, up2_r (by decide), hs 71 (by decide), h71]; exact rst_back (fun k hk => if_neg (by omega))
    have s2 : Sm [69, 73, 75] m0 m65 := (hs.up (by decide)).trans q65.2
    rw [r69]
    refine j_aload0 69 dX12_sunFor_68 rfl ?_
    refine j_getR 72 dX12_sunFor_69 rfl fl_X12_7 rfl rfl ?_
    refine j_iconst 73 (v := 4) dX12_sunFor_72 rfl rfl ?_
    refine j_iald 74 4 rfl (by first | assumption | decide | omega) dX12_sunFor_73 rfl rfl ?_
    rw [z69]
    refine j_iload2 75 dX12_sunFor_74 rfl ?_
    refine j_iadd 76 dX12_sunFor_75 rfl ?_
    refine j_cmp_lt 82 79 dX12_sunFor_76 rfl rfl (fun h76 => ?_) (fun h76 => ?_)
    · refine j_iinc4 85 (1) dX12_sunFor_82 rfl rfl rfl rfl ?_
      refine j_goto 44 dX12_sunFor_85 rfl ?_
      rw [e2]
      exact ih (j + 1) m65 (by omega) (fun i hi => by
        by_cases q : i = j
        · rw [q]; exact fun z => (hp j (by omega)).mp z h76
        · exact hno i (by omega)) z69 s2
    · refine j_iload4 81 dX12_sunFor_79 rfl ?_
      refine j_iret dX12_sunFor_81 rfl ?_
      exact kk1 j m65 (by omega) ((hp j (by omega)).mpr h76) hno z69 s2
set_option maxRecDepth 100000 in
theorem e_sunFor (m : Mem) (a b v : Int32) (c : ¬ ((0 ≤ a ∧ a ≤ 15) ∧ (0 ≤ b ∧ b ≤ 9999) ∧ (0 ≤ v ∧ v ≤ 30))) : JM l g 2 mX11_sunFor [rf g 0, .int a, .int b, .int v] m (RF (some (.int (-1000000001))) (errC 1 m)) := by
  refine JM_of (ls := [some (rf g 0), some (.int a), some (.int b), some (.int v), none]) pn_X11 rfl rfl ?_
  refine j_iload1 1 dX11_sunFor_0 rfl ?_
  refine j_st1f 4 dX11_sunFor_1 rfl rfl cl_X11_77 rfl (c_isSill m a) ?_
  refine j_if_eq_bz 28 7 dX11_sunFor_4 rfl rfl (fun h4 => ?_) (fun h4 => ?_)
  · refine j_aload0 29 dX11_sunFor_28 rfl ?_
    refine j_ldc 31 dX11_sunFor_29 rfl kc_X11_81 ?_
    refine j_vi1f 34 dX11_sunFor_31 rfl rfl cl_X11_82 rfl rfl (c_err1 m) ?_
    refine j_iret dX11_sunFor_34 rfl ?_
    exact ⟨rfl, rfl⟩
  · refine j_iload2 8 dX11_sunFor_7 rfl ?_
    refine j_iconst 9 (v := 0) dX11_sunFor_8 rfl rfl ?_
    refine j_sipush 12 (v := 9999) dX11_sunFor_9 rfl rfl ?_
    refine j_st3f 15 dX11_sunFor_12 rfl rfl cl_X11_86 rfl (c_within m b 0 9999) ?_
    refine j_if_eq_bz 28 18 dX11_sunFor_15 rfl rfl (fun h15 => ?_) (fun h15 => ?_)
    · refine j_aload0 29 dX11_sunFor_28 rfl ?_
      refine j_ldc 31 dX11_sunFor_29 rfl kc_X11_81 ?_
      refine j_vi1f 34 dX11_sunFor_31 rfl rfl cl_X11_82 rfl rfl (c_err1 m) ?_
      refine j_iret dX11_sunFor_34 rfl ?_
      exact ⟨rfl, rfl⟩
    · refine j_iload3 19 dX11_sunFor_18 rfl ?_
      refine j_iconst 20 (v := 0) dX11_sunFor_19 rfl rfl ?_
      refine j_bipush 22 (v := 30) dX11_sunFor_20 rfl rfl ?_
      refine j_st3f 25 dX11_sunFor_22 rfl rfl cl_X11_86 rfl (c_within m v 0 30) ?_
      refine j_if_ne_bz 35 28 dX11_sunFor_25 rfl rfl (fun h25 => ?_) (fun h25 => ?_)
      · exact absurd ⟨h4, h15, h25⟩ c
      · refine j_aload0 29 dX11_sunFor_28 rfl ?_
        refine j_ldc 31 dX11_sunFor_29 rfl kc_X11_81 ?_
        refine j_vi1f 34 dX11_sunFor_31 rfl rfl cl_X11_82 rfl rfl (c_err1 m) ?_
        refine j_iret dX11_sunFor_34 rfl ?_
        exact ⟨rfl, rfl⟩
set_option maxRecDepth 100000 in
theorem f_sunFor (m : Mem) (a b v : Int32) (c : ¬ ((0 ≤ a ∧ a ≤ 15) ∧ (0 ≤ b ∧ b ≤ 9999) ∧ (0 ≤ v ∧ v ≤ 30))) : JM l g 2 mX12_sunFor [rf g 68, .int a, .int b, .int v] m (RF (some (.int (-1000000001))) (errM 1 m)) := by
  refine JM_of (ls := [some (rf g 68), some (.int a), some (.int b), some (.int v), none]) pn_X12 rfl rfl ?_
  refine j_iload1 1 dX12_sunFor_0 rfl ?_
  refine j_st1f 4 dX12_sunFor_1 rfl rfl cl_X12_174 rfl (c_misSill m a) ?_
  refine j_if_eq_bz 31 7 dX12_sunFor_4 rfl rfl (fun h4 => ?_) (fun h4 => ?_)
  · refine j_aload0 32 dX12_sunFor_31 rfl ?_
    refine j_iconst 33 (v := 1) dX12_sunFor_32 rfl rfl ?_
    refine j_vi1f 36 dX12_sunFor_33 rfl rfl cl_X12_126 rfl rfl (c_finds1 m) ?_
    refine j_iret dX12_sunFor_36 rfl ?_
    exact ⟨rfl, rfl⟩
  · refine j_iload2 8 dX12_sunFor_7 rfl ?_
    refine j_i2l 9 dX12_sunFor_8 rfl ?_
    refine j_lconst 10 (v := 0) dX12_sunFor_9 rfl rfl ?_
    refine j_ldc2 13 dX12_sunFor_10 rfl kl_X12_205 ?_
    refine j_st3f 16 dX12_sunFor_13 rfl rfl cl_X12_47 rfl (c_in m b 0 9999) ?_
    refine j_if_eq_bz 31 19 dX12_sunFor_16 rfl rfl (fun h16 => ?_) (fun h16 => ?_)
    · refine j_aload0 32 dX12_sunFor_31 rfl ?_
      refine j_iconst 33 (v := 1) dX12_sunFor_32 rfl rfl ?_
      refine j_vi1f 36 dX12_sunFor_33 rfl rfl cl_X12_126 rfl rfl (c_finds1 m) ?_
      refine j_iret dX12_sunFor_36 rfl ?_
      exact ⟨rfl, rfl⟩
    · refine j_iload3 20 dX12_sunFor_19 rfl ?_
      refine j_i2l 21 dX12_sunFor_20 rfl ?_
      refine j_lconst 22 (v := 0) dX12_sunFor_21 rfl rfl ?_
      refine j_ldc2 25 dX12_sunFor_22 rfl kl_X12_187 ?_
      refine j_st3f 28 dX12_sunFor_25 rfl rfl cl_X12_47 rfl (c_in m v 0 30) ?_
      refine j_if_ne_bz 37 31 dX12_sunFor_28 rfl rfl (fun h28 => ?_) (fun h28 => ?_)
      · exact absurd ⟨h4, h16, h28⟩ c
      · refine j_aload0 32 dX12_sunFor_31 rfl ?_
        refine j_iconst 33 (v := 1) dX12_sunFor_32 rfl rfl ?_
        refine j_vi1f 36 dX12_sunFor_33 rfl rfl cl_X12_126 rfl rfl (c_finds1 m) ?_
        refine j_iret dX12_sunFor_36 rfl ?_
        exact ⟨rfl, rfl⟩
set_option maxRecDepth 100000 in
theorem o_sunFor {Q : Option Value → Mem → Prop} (m : Mem) (d : Nat → Int32) (w : WF d) (hT : TR 9 m d) (hP : PR 36 m d) (s n : Nat) (v : Int32) (hS : s < 16) (hn : n ≤ 30) (h2 : 0 ≤ v ∧ v ≤ 9999) (P : Nat → Prop) (hp : ∀ i, i < 10 → (P i ↔ ¬ itD n (upd1 d (8 + s) (nI i)) 4 - d 4 < v)) (kk1 : ∀ j m', j < 10 → P j → (∀ i, i < j → ¬ P i) → Sm thS m m' → Q (some (.int (nI j))) m') (kk2 : (∀ i, i < 10 → ¬ P i) → ∀ m', Sm thS m m' → Q (some (.int (-1000000002))) (errC 2 m')) : JM l g 6 mX11_sunFor [rf g 0, .int (nI s), .int v, .int (nI n)] m (Q) := by
  refine JM_of (ls := [some (rf g 0), some (.int (nI s)), some (.int v), some (.int (nI n)), none]) pn_X11 rfl rfl ?_
  refine j_iload1 1 dX11_sunFor_0 rfl ?_
  refine j_st1f 4 dX11_sunFor_1 rfl rfl cl_X11_77 rfl (c_isSill m _) ?_
  refine j_if_eq_bz 28 7 dX11_sunFor_4 rfl rfl (fun h4 => absurd ((rngN 15 (by decide)).mpr ⟨s, by omega, rfl⟩) h4) (fun h4 => ?_)
  refine j_iload2 8 dX11_sunFor_7 rfl ?_
  refine j_iconst 9 (v := 0) dX11_sunFor_8 rfl rfl ?_
  refine j_sipush 12 (v := 9999) dX11_sunFor_9 rfl rfl ?_
  refine j_st3f 15 dX11_sunFor_12 rfl rfl cl_X11_86 rfl (c_within m _ 0 9999) ?_
  refine j_if_eq_bz 28 18 dX11_sunFor_15 rfl rfl (fun h15 => absurd h2 h15) (fun h15 => ?_)
  refine j_iload3 19 dX11_sunFor_18 rfl ?_
  refine j_iconst 20 (v := 0) dX11_sunFor_19 rfl rfl ?_
  refine j_bipush 22 (v := 30) dX11_sunFor_20 rfl rfl ?_
  refine j_st3f 25 dX11_sunFor_22 rfl rfl cl_X11_86 rfl (c_within m _ 0 30) ?_
  refine j_if_ne_bz 35 28 dX11_sunFor_25 rfl rfl (fun h25 => ?_) (fun h25 => absurd ((rngN 30 (by decide)).mpr ⟨n, hn, rfl⟩) h25)
  refine j_iconst 36 (v := 0) dX11_sunFor_35 rfl rfl ?_
  refine j_istore4 38 dX11_sunFor_36 rfl rfl rfl ?_
  exact lp_sunFor d w s n hS hn v m hT hP P hp kk1 kk2 10 0 m rfl (fun i hi => absurd hi (Nat.not_lt_zero i)) Sm.rf
set_option maxRecDepth 100000 in
theorem p_sunFor {Q : Option Value → Mem → Prop} (m : Mem) (w : WF (m 69)) (hd : nb (m 69 1) 10000) (s n : Nat) (v : Int32) (hS : s < 16) (hn : n ≤ 30) (h2 : 0 ≤ v ∧ v ≤ 9999) (P : Nat → Prop) (hp : ∀ i, i < 10 → (P i ↔ ¬ itD n (upd1 (m 69) (8 + s) (nI i)) 4 < m 69 4 + v)) (kk1 : ∀ j m', j < 10 → P j → (∀ i, i < j → ¬ P i) → MK m m' → Q (some (.int (nI j))) m') (kk2 : (∀ i, i < 10 → ¬ P i) → ∀ m', MK m m' → Q (some (.int (-1000000002))) (errM 2 m')) : JM l g 7 mX12_sunFor [rf g 68, .int (nI s), .int v, .int (nI n)] m (Q) := by
  refine JM_of (ls := [some (rf g 68), some (.int (nI s)), some (.int v), some (.int (nI n)), none]) pn_X12 rfl rfl ?_
  refine j_iload1 1 dX12_sunFor_0 rfl ?_
  refine j_st1f 4 dX12_sunFor_1 rfl rfl cl_X12_174 rfl (c_misSill m _) ?_
  refine j_if_eq_bz 31 7 dX12_sunFor_4 rfl rfl (fun h4 => absurd ((rngN 15 (by decide)).mpr ⟨s, by omega, rfl⟩) h4) (fun h4 => ?_)
  refine j_iload2 8 dX12_sunFor_7 rfl ?_
  refine j_i2l 9 dX12_sunFor_8 rfl ?_
  refine j_lconst 10 (v := 0) dX12_sunFor_9 rfl rfl ?_
  refine j_ldc2 13 dX12_sunFor_10 rfl kl_X12_205 ?_
  refine j_st3f 16 dX12_sunFor_13 rfl rfl cl_X12_47 rfl (c_in m _ 0 9999) ?_
  refine j_if_eq_bz 31 19 dX12_sunFor_16 rfl rfl (fun h16 => absurd h2 h16) (fun h16 => ?_)
  refine j_iload3 20 dX12_sunFor_19 rfl ?_
  refine j_i2l 21 dX12_sunFor_20 rfl ?_
  refine j_lconst 22 (v := 0) dX12_sunFor_21 rfl rfl ?_
  refine j_ldc2 25 dX12_sunFor_22 rfl kl_X12_187 ?_
  refine j_st3f 28 dX12_sunFor_25 rfl rfl cl_X12_47 rfl (c_in m _ 0 30) ?_
  refine j_if_ne_bz 37 31 dX12_sunFor_28 rfl rfl (fun h28 => ?_) (fun h28 => absurd ((rngN 30 (by decide)).mpr ⟨n, hn, rfl⟩) h28)
  refine j_aload0 38 dX12_sunFor_37 rfl ?_
  refine j_vi0v 41 dX12_sunFor_38 rfl rfl cl_X12_226 rfl rfl (c_keepAside m) ?_
  refine j_iconst 42 (v := 0) dX12_sunFor_41 rfl rfl ?_
  refine j_istore4 44 dX12_sunFor_42 rfl rfl rfl ?_
  exact lm_sunFor (m 69) (m 71) w hd s n hS hn v _ upR_s P hp (fun j m' a1 a2 a3 r s => kk1 j m' a1 a2 a3 ⟨r, (Sm.rf.row (by decide)).trans (s.mono (by decide))⟩) (fun a m' r s => kk2 a m' ⟨r, (Sm.rf.row (by decide)).trans (s.mono (by decide))⟩) 10 0 _ rfl (fun i hi => absurd hi (Nat.not_lt_zero i)) (upR_n (by decide)) Sm.rf
theorem op_sunFor {m : Mem} (I : INV m) (a v b : Int32) : OPr l g mX11_sunFor mX12_sunFor [.int a, .int v, .int b] m := by
  obtain ⟨⟨wf, hd, hT, hP⟩, -⟩ := id I
  by_cases c : (0 ≤ a ∧ a ≤ 15) ∧ (0 ≤ v ∧ v ≤ 9999) ∧ (0 ≤ b ∧ b ≤ 30)
  · obtain ⟨h1, h2, h3⟩ := c
    obtain ⟨s, hs, rfl⟩ := (rngN 15 (by decide)).mp h1
    obtain ⟨n, hn, rfl⟩ := (rngN 30 (by decide)).mp h3
    have hS : s < 16 := by omega
    have hv : nb v 10000 := by obtain ⟨j, j1, j2⟩ := (rngN 9999 (by decide)).mp h2; exact ⟨j, by omega, j2⟩
    have eq : ∀ i, i < 10 → ((fun i => ¬ itD n (upd1 (m 69) (8 + s) (nI i)) 4 - m 69 4 < v) i ↔ ¬ itD n (upd1 (m 69) (8 + s) (nI i)) 4 < m 69 4 + v) := fun i hi => not_congr (glv (itD_wf n (WF_sun' wf (i := s) (v := nI i) hS ⟨i, hi, rfl⟩)).2.2.2.1 wf.2.2.2.1 hv)
    rcases findK (fun i => itD n (upd1 (m 69) (8 + s) (nI i)) 4 - m 69 4 < v) 10 with ⟨N, hN, hy, hno⟩ | hno
    · have u : ∀ j, (¬ itD n (upd1 (m 69) (8 + s) (nI j)) 4 - m 69 4 < v) → (∀ i, i < j → ¬ ¬ itD n (upd1 (m 69) (8 + s) (nI i)) 4 - m 69 4 < v) → j = N := fun j p1 p2 => by
        rcases (show j < N ∨ j = N ∨ N < j by omega) with z | z | z
        · exact absurd (hno j z) p1
        · exact z
        · exact absurd hy (p2 N z)
      refine OPr_ask (d1 := 6) (d2 := 7) (r := nI N) I (by decide) (by decide) (o_sunFor m (m 69) wf hT hP s n v hS hn h2 _ (fun i hi => Iff.rfl) (fun j m' _ p1 p2 s => ⟨by rw [u j p1 p2], s⟩) (fun a => absurd hy (a N hN))) (fun m' s' => ?_)
      have e := dn s'
      exact p_sunFor m' (by rw [e]; exact wf) (by rw [e]; exact hd) s n v hS hn h2 (fun i => ¬ itD n (upd1 (m 69) (8 + s) (nI i)) 4 - m 69 4 < v) (by rw [e]; exact eq) (fun j m' _ p1 p2 s => ⟨by rw [u j p1 p2], s⟩) (fun a => absurd hy (a N hN))
    · refine OPr_none (d1 := 6) (d2 := 7) I (by decide) (by decide) (by decide) (o_sunFor m (m 69) wf hT hP s n v hS hn h2 _ (fun i hi => Iff.rfl) (fun j m' hj p1 _ _ => absurd (hno j hj) p1) (fun _ m' s => ⟨rfl, m', s, rfl⟩)) (fun m' s' => ?_)
      have e : errC 2 m' 69 = m 69 := (errC_o (by decide)).trans (dn s')
      exact p_sunFor (errC 2 m') (by rw [e]; exact wf) (by rw [e]; exact hd) s n v hS hn h2 (fun i => ¬ itD n (upd1 (m 69) (8 + s) (nI i)) 4 - m 69 4 < v) (by rw [e]; exact eq) (fun j m' hj p1 _ _ => absurd (hno j hj) p1) (fun _ m' s => ⟨rfl, m', s, rfl⟩)
  · exact OPr_err I (by decide) (by decide) (by decide) (e_sunFor m a v b c) (f_sunFor _ a v b c)
set_option maxRecDepth 100000 in
theorem li_swap {Q : Option Value → Mem → Prop} (d : Nat → Int32) (w : WF d) (n : Nat) (hn20 : n ≤ 20) (m0 : Mem) (hT0 : TR 9 m0 d) (hP : PR 36 m0 d) (U : Nat → Nat → Int32) (hU : ∀ a b, U a b = itD n (swD d a b) 4) (a : Nat) (ha : a < hn d) (t i0 : Int32) (kk : ∀ m', Sm thS m0 m' → ∀ o, J l g 6 mX11_swap 46 [some (rf g 0), some (.int (nI n)), some (.int (scV (U a) (a + 1) t (hn d - (a + 1)))), some (.int (scJ (U a) (tnF a) (a + 1) t i0 (hn d - (a + 1)))), some (.int (nI (a + 1))), o] [] m' Q) : ∀ (k j : Nat) (m : Mem), a + 1 + j + k = hn d → Sm thS m0 m → J l g 6 mX11_swap 64 [some (rf g 0), some (.int (nI n)), some (.int (scV (U a) (a + 1) t j)), some (.int (scJ (U a) (tnF a) (a + 1) t i0 j)), some (.int (nI a)), some (.int (nI (a + 1 + j)))] [] m Q := by
  intro k
  have wn := w.n
  induction k with
  | zero =>
    intro j m e hs
    have ej : j = hn d - (a + 1) := by omega
    have e9 : m 9 9 = nI (hn d) := (thT hs hT0).1.trans wn.2
    have e1 : nI a + 1 = nI (a + 1) := nI_1 a
    refine j_iload5 66 dX11_swap_64 rfl ?_
    refine j_aload0 67 dX11_swap_66 rfl ?_
    refine j_getR 70 dX11_swap_67 rfl fl_X11_35 rfl rfl ?_
    refine j_getI 73 dX11_swap_70 rfl fl_X11_116 rfl rfl ?_
    refine j_top e9 ?_
    refine j_cmp_ge 166 76 dX11_swap_73 rfl rfl (fun h73 => ?_) (fun h73 => absurd (show nI (hn d) ≤ nI (a + 1 + j) from nI_le (by omega) (by omega)) h73)
    refine j_iinc4 169 (1) dX11_swap_166 rfl rfl rfl rfl ?_
    refine j_goto 46 dX11_swap_169 rfl ?_
    rw [e1, ej]
    exact kk m hs _
  | succ k ih =>
    intro j m e hs
    have e9 : m 9 9 = nI (hn d) := (thT hs hT0).1.trans wn.2
    have e2 : nI (a + 1 + j) + 1 = nI (a + 1 + (j + 1)) := nI_1 (a + 1 + j)
    have ha8 : a < 8 := by omega
    have hb : a + 1 + j < 8 := by omega
    have w1 := WF_swD w ha8 hb
    have oe : ∀ k, 88 ≤ k → swD d a (a + 1 + j) k = d k := fun k hk => swD_o (by omega) (by omega)
    refine j_iload5 66 dX11_swap_64 rfl ?_
    refine j_aload0 67 dX11_swap_66 rfl ?_
    refine j_getR 70 dX11_swap_67 rfl fl_X11_35 rfl rfl ?_
    refine j_getI 73 dX11_swap_70 rfl fl_X11_116 rfl rfl ?_
    refine j_top e9 ?_
    refine j_cmp_ge 166 76 dX11_swap_73 rfl rfl (fun h73 => absurd h73 (nI_ge (a := a + 1 + j) (b := hn d) (by omega) (by omega))) (fun h73 => ?_)
    refine j_aload0 77 dX11_swap_76 rfl ?_
    refine j_vi0w 80 dX11_swap_77 rfl rfl cl_X11_217 rfl rfl (c_think m) (fun m77 q77 => ?_)
    have s1 : Sm thS m0 m77 := hs.trans (q77.2.mono (by decide))
    have t1 := q77.1 d (thT hs hT0)
    have t0 := thT s1 hT0
    obtain ⟨l0, l1⟩ := LR2 hP (s1 39 (by decide)) (s1 40 (by decide)) (s1 43 (by decide)) (s1 44 (by decide))
    refine j_aload0 81 dX11_swap_80 rfl ?_
    refine j_getR 84 dX11_swap_81 rfl fl_X11_39 rfl rfl ?_
    refine j_getR 87 dX11_swap_84 rfl fl_X11_133 rfl rfl ?_
    refine j_iload4 89 dX11_swap_87 rfl ?_
    refine j_aload0 90 dX11_swap_89 rfl ?_
    refine j_getR 93 dX11_swap_90 rfl fl_X11_35 rfl rfl ?_
    refine j_getR 96 dX11_swap_93 rfl fl_X11_133 rfl rfl ?_
    refine j_iload5 98 dX11_swap_96 rfl ?_
    refine j_iald 99 _ rfl hb dX11_swap_98 rfl rfl ?_
    refine j_iast 100 _ rfl ha8 dX11_swap_99 rfl rfl ?_
    refine j_aload0 101 dX11_swap_100 rfl ?_
    refine j_getR 104 dX11_swap_101 rfl fl_X11_39 rfl rfl ?_
    refine j_getR 107 dX11_swap_104 rfl fl_X11_133 rfl rfl ?_
    refine j_iload5 109 dX11_swap_107 rfl ?_
    refine j_aload0 110 dX11_swap_109 rfl ?_
    refine j_getR 113 dX11_swap_110 rfl fl_X11_35 rfl rfl ?_
    refine j_getR 116 dX11_swap_113 rfl fl_X11_133 rfl rfl ?_
    refine j_iload4 118 dX11_swap_116 rfl ?_
    refine j_iald 119 _ rfl ha8 dX11_swap_118 rfl rfl ?_
    refine j_iast 120 _ rfl hb dX11_swap_119 rfl rfl ?_
    refine j_mem (m' := up2 (up2 m77 23 a (hf d (a + 1 + j) 2)) 23 (a + 1 + j) (hf d a 2)) (by rw [up2_a (show 14 ≠ 23 by decide), show m77 14 (a + 1 + j) = hf d (a + 1 + j) 2 from t0.2.2.2.2.2.2.2 _ hb 2 (by decide), show m77 14 a = hf d a 2 from t0.2.2.2.2.2.2.2 _ ha8 2 (by decide)]) ?_
    refine j_aload0 121 dX11_swap_120 rfl ?_
    refine j_getR 124 dX11_swap_121 rfl fl_X11_39 rfl rfl ?_
    refine j_iload1 125 dX11_swap_124 rfl ?_
    refine j_aload0 126 dX11_swap_125 rfl ?_
    refine j_getR 129 dX11_swap_126 rfl fl_X11_48 rfl rfl ?_
    refine j_vi2w 132 dX11_swap_129 rfl rfl cl_X11_205 rfl rfl (c_goDays_18 (up2 (up2 m77 23 a (hf d (a + 1 + j) 2)) 23 (a + 1 + j) (hf d a 2)) (swD d a (a + 1 + j)) n (by omega) w1 (TR_hf (r := 2) (TR_hf (r := 2) t1 ha8 (by decide)) hb (by decide)) (LR_congr (by decide) l0 ((up2_r (by decide)).trans (up2_r (by decide))) ((up2_r (by decide)).trans (up2_r (by decide))) oe) (LR_congr (by decide) l1 ((up2_r (by decide)).trans (up2_r (by decide))) ((up2_r (by decide)).trans (up2_r (by decide))) oe)) (fun m129 q129 => ?_)
    have v1 : m129 18 12 = U a (a + 1 + j) := q129.1.2.2.2.1.trans (hU _ _).symm
    refine j_aload0 133 dX11_swap_132 rfl ?_
    refine j_getR 136 dX11_swap_133 rfl fl_X11_39 rfl rfl ?_
    refine j_getI 139 dX11_swap_136 rfl fl_X11_110 rfl rfl ?_
    refine j_iload2 140 dX11_swap_139 rfl ?_
    refine j_cmp_le 160 143 dX11_swap_140 rfl rfl (fun h140 => ?_) (fun h140 => ?_)
    · refine j_iinc5 163 (1) dX11_swap_160 rfl rfl rfl rfl ?_
      refine j_goto 64 dX11_swap_163 rfl ?_
      rw [e2]
      rw [v1] at h140
      have s2 : Sm thS m0 m129 := ((s1.up (by decide)).up (by decide)).trans (q129.2.mono (by decide))
      have ih1 := ih (j + 1) m129 (by omega) s2
      first | (rw [(sj_f (F := tnF a) (a := i0) (show U a (a + 1 + j) ≤ scV (U a) (a + 1) t j from h140)).1, (sj_f (F := tnF a) (a := i0) (show U a (a + 1 + j) ≤ scV (U a) (a + 1) t j from h140)).2] at ih1; exact ih1) | (rw [(sj_t (F := tnF a) (a := i0) (show ¬ U a (a + 1 + j) ≤ scV (U a) (a + 1) t j from h140)).1, (sj_t (F := tnF a) (a := i0) (show ¬ U a (a + 1 + j) ≤ scV (U a) (a + 1) t j from h140)).2] at ih1; rw [v1]; exact ih1)
    · refine j_aload0 144 dX11_swap_143 rfl ?_
      refine j_getR 147 dX11_swap_144 rfl fl_X11_39 rfl rfl ?_
      refine j_getI 150 dX11_swap_147 rfl fl_X11_110 rfl rfl ?_
      refine j_istore2 151 dX11_swap_150 rfl rfl rfl ?_
      refine j_bipush 153 (v := nI 10) dX11_swap_151 rfl rfl ?_
      refine j_iload4 155 dX11_swap_153 rfl ?_
      refine j_imulN 156 dX11_swap_155 rfl ?_
      refine j_iload5 158 dX11_swap_156 rfl ?_
      refine j_iaddN 159 dX11_swap_158 rfl ?_
      refine j_istore3 160 dX11_swap_159 rfl rfl rfl ?_
      refine j_iinc5 163 (1) dX11_swap_160 rfl rfl rfl rfl ?_
      refine j_goto 64 dX11_swap_163 rfl ?_
      rw [e2]
      rw [v1] at h140
      have s2 : Sm thS m0 m129 := ((s1.up (by decide)).up (by decide)).trans (q129.2.mono (by decide))
      have ih1 := ih (j + 1) m129 (by omega) s2
      first | (rw [(sj_f (F := tnF a) (a := i0) (show U a (a + 1 + j) ≤ scV (U a) (a + 1) t j from h140)).1, (sj_f (F := tnF a) (a := i0) (show U a (a + 1 + j) ≤ scV (U a) (a + 1) t j from h140)).2] at ih1; exact ih1) | (rw [(sj_t (F := tnF a) (a := i0) (show ¬ U a (a + 1 + j) ≤ scV (U a) (a + 1) t j from h140)).1, (sj_t (F := tnF a) (a := i0) (show ¬ U a (a + 1 + j) ≤ scV (U a) (a + 1) t j from h140)).2] at ih1; rw [v1]; exact ih1)
set_option maxRecDepth 100000 in
theorem lp_swap {Q : Option Value → Mem → Prop} (d : Nat → Int32) (w : WF d) (n : Nat) (hn20 : n ≤ 20) (m0 : Mem) (hT0 : TR 9 m0 d) (hP : PR 36 m0 d) (U : Nat → Nat → Int32) (hU : ∀ a b, U a b = itD n (swD d a b) 4) (b : Int32) (kk : ∀ m', Sm thS m0 m' → Q (some (.int (swO U (hn d) b (hn d)).2)) m') : ∀ (k a : Nat) (m : Mem) (o : Option Value), a + k = hn d → Sm thS m0 m → J l g 6 mX11_swap 46 [some (rf g 0), some (.int (nI n)), some (.int (swO U (hn d) b a).1), some (.int (swO U (hn d) b a).2), some (.int (nI a)), o] [] m Q := by
  intro k
  have wn := w.n
  induction k with
  | zero =>
    intro a m o e hs
    have ea : a = hn d := by omega
    have e9 : m 9 9 = nI (hn d) := (thT hs hT0).1.trans wn.2
    refine j_iload4 48 dX11_swap_46 rfl ?_
    refine j_aload0 49 dX11_swap_48 rfl ?_
    refine j_getR 52 dX11_swap_49 rfl fl_X11_35 rfl rfl ?_
    refine j_getI 55 dX11_swap_52 rfl fl_X11_116 rfl rfl ?_
    refine j_top e9 ?_
    refine j_cmp_ge 172 58 dX11_swap_55 rfl rfl (fun h55 => ?_) (fun h55 => absurd (show nI (hn d) ≤ nI a from nI_le (by omega) (by omega)) h55)
    refine j_iload3 173 dX11_swap_172 rfl ?_
    refine j_iret dX11_swap_173 rfl ?_
    rw [ea]; exact kk m hs
  | succ k ih =>
    intro a m o e hs
    have e9 : m 9 9 = nI (hn d) := (thT hs hT0).1.trans wn.2
    refine j_iload4 48 dX11_swap_46 rfl ?_
    refine j_aload0 49 dX11_swap_48 rfl ?_
    refine j_getR 52 dX11_swap_49 rfl fl_X11_35 rfl rfl ?_
    refine j_getI 55 dX11_swap_52 rfl fl_X11_116 rfl rfl ?_
    refine j_top e9 ?_
    refine j_cmp_ge 172 58 dX11_swap_55 rfl rfl (fun h55 => absurd h55 (nI_ge (a := a) (b := hn d) (by omega) (by omega))) (fun h55 => ?_)
    refine j_iload4 60 dX11_swap_58 rfl ?_
    refine j_iconst 61 (v := nI 1) dX11_swap_60 rfl rfl ?_
    refine j_iaddN 62 dX11_swap_61 rfl ?_
    refine j_istore5 64 dX11_swap_62 rfl rfl rfl ?_
    exact li_swap d w n hn20 m0 hT0 hP U hU a (by omega) _ _ (fun m' s o => ih (a + 1) m' o (by omega) s) (hn d - (a + 1)) 0 m (by omega) hs
set_option maxRecDepth 100000 in
theorem lj_swap {Q : Option Value → Mem → Prop} (d a0 : Nat → Int32) (w : WF d) (hd : nb (d 1) 10000) (n : Nat) (hn20 : n ≤ 20) (m0 : Mem) (h71 : m0 71 = rst d a0) (U : Nat → Nat → Int32) (hU : ∀ a b, U a b = itD n (swD d a b) 4) (a : Nat) (ha : a < hn d) (t i0 : Int32) (kk : ∀ m', m' 69 = d → Sm [69, 73, 75] m0 m' → ∀ o o6 o7, J l g 7 mX12_swap 34 [some (rf g 68), some (.int (nI n)), some (.int (scV (U a) (a + 1) t (hn d - (a + 1)))), some (.int (scJ (U a) (tnF a) (a + 1) t i0 (hn d - (a + 1)))), some (.int (nI (a + 1))), o, o6, o7] [] m' Q) : ∀ (k j : Nat) (m : Mem) (o6 o7 : Option Value), a + 1 + j + k = hn d → m 69 = d → Sm [69, 73, 75] m0 m → J l g 7 mX12_swap 51 [some (rf g 68), some (.int (nI n)), some (.int (scV (U a) (a + 1) t j)), some (.int (scJ (U a) (tnF a) (a + 1) t i0 j)), some (.int (nI a)), some (.int (nI (a + 1 + j))), o6, o7] [] m Q := by
  intro k
  have wn := w.n
  induction k with
  | zero =>
    intro j m o6 o7 e hm hs
    have ej : j = hn d - (a + 1) := by omega
    have e9 : m 69 0 = nI (hn d) := by rw [hm]; exact wn.2
    have e1 : nI a + 1 = nI (a + 1) := nI_1 a
    refine j_iload5 53 dX12_swap_51 rfl ?_
    refine j_aload0 54 dX12_swap_53 rfl ?_
    refine j_getR 57 dX12_swap_54 rfl fl_X12_7 rfl rfl ?_
    refine j_iconst 58 (v := 0) dX12_swap_57 rfl rfl ?_
    refine j_iald 59 0 rfl (by first | assumption | decide | omega) dX12_swap_58 rfl rfl ?_
    refine j_top e9 ?_
    refine j_cmp_ge 126 62 dX12_swap_59 rfl rfl (fun h59 => ?_) (fun h59 => absurd (show nI (hn d) ≤ nI (a + 1 + j) from nI_le (by omega) (by omega)) h59)
    refine j_iinc4 129 (1) dX12_swap_126 rfl rfl rfl rfl ?_
    refine j_goto 34 dX12_swap_129 rfl ?_
    rw [e1, ej]
    exact kk m hm hs _ _ _
  | succ k ih =>
    intro j m o6 o7 e hm hs
    have e9 : m 69 0 = nI (hn d) := by rw [hm]; exact wn.2
    have e2 : nI (a + 1 + j) + 1 = nI (a + 1 + (j + 1)) := nI_1 (a + 1 + j)
    have ha8 : a < 8 := by omega
    have hb : a + 1 + j < 8 := by omega
    have w1 := WF_swD w ha8 hb
    have d1 : swD d a (a + 1 + j) 1 = d 1 := swD_o (by omega) (by omega)
    have r69 : up2 (up2 m 69 (40 + 6 * a + 2) (hf (m 69) (a + 1 + j) 2)) 69 (40 + 6 * (a + 1 + j) + 2) (hf (m 69) a 2) 69 = swD d a (a + 1 + j) := by rw [up2_row69, up2_row69, hm]; rfl
    refine j_iload5 53 dX12_swap_51 rfl ?_
    refine j_aload0 54 dX12_swap_53 rfl ?_
    refine j_getR 57 dX12_swap_54 rfl fl_X12_7 rfl rfl ?_
    refine j_iconst 58 (v := 0) dX12_swap_57 rfl rfl ?_
    refine j_iald 59 0 rfl (by first | assumption | decide | omega) dX12_swap_58 rfl rfl ?_
    refine j_top e9 ?_
    refine j_cmp_ge 126 62 dX12_swap_59 rfl rfl (fun h59 => absurd h59 (nI_ge (a := a + 1 + j) (b := hn d) (by omega) (by omega))) (fun h59 => ?_)
    refine j_aload0 63 dX12_swap_62 rfl ?_
    refine j_iload4 65 dX12_swap_63 rfl ?_
    refine j_iconst 66 (v := nI 2) dX12_swap_65 rfl rfl ?_
    refine j_vi2f 69 dX12_swap_66 rfl rfl cl_X12_146 rfl rfl (c_of m a 2 ha8 (by decide)) ?_
    refine j_istore6 71 dX12_swap_69 rfl rfl rfl ?_
    refine j_aload0 72 dX12_swap_71 rfl ?_
    refine j_iload4 74 dX12_swap_72 rfl ?_
    refine j_iconst 75 (v := nI 2) dX12_swap_74 rfl rfl ?_
    refine j_aload0 76 dX12_swap_75 rfl ?_
    refine j_iload5 78 dX12_swap_76 rfl ?_
    refine j_iconst 79 (v := nI 2) dX12_swap_78 rfl rfl ?_
    refine j_vi2f 82 dX12_swap_79 rfl rfl cl_X12_146 rfl rfl (c_of m (a + 1 + j) 2 hb (by decide)) ?_
    refine j_vi3v 85 dX12_swap_82 rfl rfl cl_X12_164 rfl rfl (c_sets m a 2 (hf (m 69) (a + 1 + j) 2) ha8 (by decide)) ?_
    refine j_aload0 86 dX12_swap_85 rfl ?_
    refine j_iload5 88 dX12_swap_86 rfl ?_
    refine j_iconst 89 (v := nI 2) dX12_swap_88 rfl rfl ?_
    refine j_iload6 91 dX12_swap_89 rfl ?_
    refine j_vi3v 94 dX12_swap_91 rfl rfl cl_X12_164 rfl rfl (c_sets (up2 m 69 (40 + 6 * a + 2) (hf (m 69) (a + 1 + j) 2)) (a + 1 + j) 2 (hf (m 69) a 2) hb (by decide)) ?_
    refine j_aload0 95 dX12_swap_94 rfl ?_
    refine j_iload1 96 dX12_swap_95 rfl ?_
    refine j_iconst 97 (v := nI 4) dX12_swap_96 rfl rfl ?_
    refine j_vi2s 100 dX12_swap_97 rfl rfl cl_X12_232 rfl rfl (c_behind (up2 (up2 m 69 (40 + 6 * a + 2) (hf (m 69) (a + 1 + j) 2)) 69 (40 + 6 * (a + 1 + j) + 2) (hf (m 69) a 2)) n 4 (by omega) (by omega) (by rw [r69]; exact w1) (by rw [r69, d1]; exact nb_up hd (by decide))) (fun m97 q97 => ?_)
    refine j_top (show itD n (up2 (up2 m 69 (40 + 6 * a + 2) (hf (m 69) (a + 1 + j) 2)) 69 (40 + 6 * (a + 1 + j) + 2) (hf (m 69) a 2) 69) 4 = U a (a + 1 + j) by rw [r69]; exact (hU _ _).symm) ?_
    have z69 : m97 69 = d := by rw [q97.1, r69, up2_r (by decide), up2_r (by decide), hs 71 (by decide), h71]; exact rst_back (fun k hk => swD_o (by omega) (by omega))
    have s2 : Sm [69, 73, 75] m0 m97 := ((hs.up (by decide)).up (by decide)).trans q97.2
    refine j_istore7 102 dX12_swap_100 rfl rfl rfl ?_
    refine j_iload7 104 dX12_swap_102 rfl ?_
    refine j_iload2 105 dX12_swap_104 rfl ?_
    refine j_cmp_le 120 108 dX12_swap_105 rfl rfl (fun h105 => ?_) (fun h105 => ?_)
    · refine j_iinc5 123 (1) dX12_swap_120 rfl rfl rfl rfl ?_
      refine j_goto 51 dX12_swap_123 rfl ?_
      rw [e2]
      have ih1 := ih (j + 1) m97 (some (.int (hf (m 69) a 2))) (some (.int (U a (a + 1 + j)))) (by omega) z69 s2
      first | (rw [(sj_f (F := tnF a) (a := i0) (show U a (a + 1 + j) ≤ scV (U a) (a + 1) t j from h105)).1, (sj_f (F := tnF a) (a := i0) (show U a (a + 1 + j) ≤ scV (U a) (a + 1) t j from h105)).2] at ih1; exact ih1) | (rw [(sj_t (F := tnF a) (a := i0) (show ¬ U a (a + 1 + j) ≤ scV (U a) (a + 1) t j from h105)).1, (sj_t (F := tnF a) (a := i0) (show ¬ U a (a + 1 + j) ≤ scV (U a) (a + 1) t j from h105)).2] at ih1; exact ih1)
    · refine j_bipush 110 (v := nI 10) dX12_swap_108 rfl rfl ?_
      refine j_iload4 112 dX12_swap_110 rfl ?_
      refine j_imulN 113 dX12_swap_112 rfl ?_
      refine j_iload5 115 dX12_swap_113 rfl ?_
      refine j_iaddN 116 dX12_swap_115 rfl ?_
      refine j_istore3 117 dX12_swap_116 rfl rfl rfl ?_
      refine j_iload7 119 dX12_swap_117 rfl ?_
      refine j_istore2 120 dX12_swap_119 rfl rfl rfl ?_
      refine j_iinc5 123 (1) dX12_swap_120 rfl rfl rfl rfl ?_
      refine j_goto 51 dX12_swap_123 rfl ?_
      rw [e2]
      have ih1 := ih (j + 1) m97 (some (.int (hf (m 69) a 2))) (some (.int (U a (a + 1 + j)))) (by omega) z69 s2
      first | (rw [(sj_f (F := tnF a) (a := i0) (show U a (a + 1 + j) ≤ scV (U a) (a + 1) t j from h105)).1, (sj_f (F := tnF a) (a := i0) (show U a (a + 1 + j) ≤ scV (U a) (a + 1) t j from h105)).2] at ih1; exact ih1) | (rw [(sj_t (F := tnF a) (a := i0) (show ¬ U a (a + 1 + j) ≤ scV (U a) (a + 1) t j from h105)).1, (sj_t (F := tnF a) (a := i0) (show ¬ U a (a + 1 + j) ≤ scV (U a) (a + 1) t j from h105)).2] at ih1; exact ih1)
set_option maxRecDepth 100000 in
theorem lm_swap {Q : Option Value → Mem → Prop} (d a0 : Nat → Int32) (w : WF d) (hd : nb (d 1) 10000) (n : Nat) (hn20 : n ≤ 20) (m0 : Mem) (h71 : m0 71 = rst d a0) (U : Nat → Nat → Int32) (hU : ∀ a b, U a b = itD n (swD d a b) 4) (b : Int32) (kk : ∀ m', m' 69 = d → Sm [69, 73, 75] m0 m' → Q (some (.int (swO U (hn d) b (hn d)).2)) m') : ∀ (k a : Nat) (m : Mem) (o o6 o7 : Option Value), a + k = hn d → m 69 = d → Sm [69, 73, 75] m0 m → J l g 7 mX12_swap 34 [some (rf g 68), some (.int (nI n)), some (.int (swO U (hn d) b a).1), some (.int (swO U (hn d) b a).2), some (.int (nI a)), o, o6, o7] [] m Q := by
  intro k
  have wn := w.n
  induction k with
  | zero =>
    intro a m o o6 o7 e hm hs
    have ea : a = hn d := by omega
    have e9 : m 69 0 = nI (hn d) := by rw [hm]; exact wn.2
    refine j_iload4 36 dX12_swap_34 rfl ?_
    refine j_aload0 37 dX12_swap_36 rfl ?_
    refine j_getR 40 dX12_swap_37 rfl fl_X12_7 rfl rfl ?_
    refine j_iconst 41 (v := 0) dX12_swap_40 rfl rfl ?_
    refine j_iald 42 0 rfl (by first | assumption | decide | omega) dX12_swap_41 rfl rfl ?_
    refine j_top e9 ?_
    refine j_cmp_ge 132 45 dX12_swap_42 rfl rfl (fun h42 => ?_) (fun h42 => absurd (show nI (hn d) ≤ nI a from nI_le (by omega) (by omega)) h42)
    refine j_iload3 133 dX12_swap_132 rfl ?_
    refine j_iret dX12_swap_133 rfl ?_
    rw [ea]; exact kk m hm hs
  | succ k ih =>
    intro a m o o6 o7 e hm hs
    have e9 : m 69 0 = nI (hn d) := by rw [hm]; exact wn.2
    refine j_iload4 36 dX12_swap_34 rfl ?_
    refine j_aload0 37 dX12_swap_36 rfl ?_
    refine j_getR 40 dX12_swap_37 rfl fl_X12_7 rfl rfl ?_
    refine j_iconst 41 (v := 0) dX12_swap_40 rfl rfl ?_
    refine j_iald 42 0 rfl (by first | assumption | decide | omega) dX12_swap_41 rfl rfl ?_
    refine j_top e9 ?_
    refine j_cmp_ge 132 45 dX12_swap_42 rfl rfl (fun h42 => absurd h42 (nI_ge (a := a) (b := hn d) (by omega) (by omega))) (fun h42 => ?_)
    refine j_iload4 47 dX12_swap_45 rfl ?_
    refine j_iconst 48 (v := nI 1) dX12_swap_47 rfl rfl ?_
    refine j_iaddN 49 dX12_swap_48 rfl ?_
    refine j_istore5 51 dX12_swap_49 rfl rfl rfl ?_
    exact lj_swap d a0 w hd n hn20 m0 h71 U hU a (by omega) _ _ (fun m' r s o o6 o7 => ih (a + 1) m' o o6 o7 (by omega) r s) (hn d - (a + 1)) 0 m _ _ (by omega) hm hs
set_option maxRecDepth 100000 in
theorem e_swap (m : Mem) (b : Int32) (c : ¬ (0 ≤ b ∧ b ≤ 20)) : JM l g 2 mX11_swap [rf g 0, .int b] m (RF (some (.int (-1000000001))) (errC 1 m)) := by
  refine JM_of (ls := [some (rf g 0), some (.int b), none, none, none, none]) pn_X11 rfl rfl ?_
  refine j_iload1 1 dX11_swap_0 rfl ?_
  refine j_iconst 2 (v := 0) dX11_swap_1 rfl rfl ?_
  refine j_bipush 4 (v := 20) dX11_swap_2 rfl rfl ?_
  refine j_st3f 7 dX11_swap_4 rfl rfl cl_X11_86 rfl (c_within m b 0 20) ?_
  refine j_if_ne_bz 17 10 dX11_swap_7 rfl rfl (fun h7 => absurd h7 c) (fun h7 => ?_)
  refine j_aload0 11 dX11_swap_10 rfl ?_
  refine j_ldc 13 dX11_swap_11 rfl kc_X11_81 ?_
  refine j_vi1f 16 dX11_swap_13 rfl rfl cl_X11_82 rfl rfl (c_err1 m) ?_
  refine j_iret dX11_swap_16 rfl ?_
  exact ⟨rfl, rfl⟩
set_option maxRecDepth 100000 in
theorem f_swap (m : Mem) (b : Int32) (c : ¬ (0 ≤ b ∧ b ≤ 20)) : JM l g 2 mX12_swap [rf g 68, .int b] m (RF (some (.int (-1000000001))) (errM 1 m)) := by
  refine JM_of (ls := [some (rf g 68), some (.int b), none, none, none, none, none, none]) pn_X12 rfl rfl ?_
  refine j_iload1 1 dX12_swap_0 rfl ?_
  refine j_i2l 2 dX12_swap_1 rfl ?_
  refine j_lconst 3 (v := 0) dX12_swap_2 rfl rfl ?_
  refine j_ldc2 6 dX12_swap_3 rfl kl_X12_241 ?_
  refine j_st3f 9 dX12_swap_6 rfl rfl cl_X12_47 rfl (c_in m b 0 20) ?_
  refine j_if_ne_bz 18 12 dX12_swap_9 rfl rfl (fun h9 => absurd h9 c) (fun h9 => ?_)
  refine j_aload0 13 dX12_swap_12 rfl ?_
  refine j_iconst 14 (v := 1) dX12_swap_13 rfl rfl ?_
  refine j_vi1f 17 dX12_swap_14 rfl rfl cl_X12_126 rfl rfl (c_finds1 m) ?_
  refine j_iret dX12_swap_17 rfl ?_
  exact ⟨rfl, rfl⟩
set_option maxRecDepth 100000 in
theorem o_swap (m : Mem) (d : Nat → Int32) (w : WF d) (hT : TR 9 m d) (hP : PR 36 m d) (n : Nat) (hn20 : n ≤ 20) : JM l g 6 mX11_swap [rf g 0, .int (nI n)] m (RS (some (.int (swO (fun a b => itD n (swD d a b) 4) (hn d) (itD n d 4) (hn d)).2)) (Sm thS m)) := by
  refine JM_of (ls := [some (rf g 0), some (.int (nI n)), none, none, none, none]) pn_X11 rfl rfl ?_
  refine j_iload1 1 dX11_swap_0 rfl ?_
  refine j_iconst 2 (v := 0) dX11_swap_1 rfl rfl ?_
  refine j_bipush 4 (v := 20) dX11_swap_2 rfl rfl ?_
  refine j_st3f 7 dX11_swap_4 rfl rfl cl_X11_86 rfl (c_within m _ 0 20) ?_
  refine j_if_ne_bz 17 10 dX11_swap_7 rfl rfl (fun h7 => ?_) (fun h7 => absurd ((rngN 20 (by decide)).mpr ⟨n, hn20, rfl⟩) h7)
  refine j_aload0 18 dX11_swap_17 rfl ?_
  refine j_vi0w 21 dX11_swap_18 rfl rfl cl_X11_217 rfl rfl (c_think m) (fun m18 q18 => ?_)
  obtain ⟨l0, l1⟩ := LR2 hP (q18.2 39 (by decide)) (q18.2 40 (by decide)) (q18.2 43 (by decide)) (q18.2 44 (by decide))
  refine j_aload0 22 dX11_swap_21 rfl ?_
  refine j_getR 25 dX11_swap_22 rfl fl_X11_39 rfl rfl ?_
  refine j_iload1 26 dX11_swap_25 rfl ?_
  refine j_aload0 27 dX11_swap_26 rfl ?_
  refine j_getR 30 dX11_swap_27 rfl fl_X11_48 rfl rfl ?_
  refine j_vi2w 33 dX11_swap_30 rfl rfl cl_X11_205 rfl rfl (c_goDays_18 m18 d n (by omega) w (q18.1 d hT) l0 l1) (fun m30 q30 => ?_)
  refine j_aload0 34 dX11_swap_33 rfl ?_
  refine j_getR 37 dX11_swap_34 rfl fl_X11_39 rfl rfl ?_
  refine j_getI 40 dX11_swap_37 rfl fl_X11_110 rfl rfl ?_
  refine j_top q30.1.2.2.2.1 ?_
  refine j_istore2 41 dX11_swap_40 rfl rfl rfl ?_
  refine j_iconst 42 (v := -1) dX11_swap_41 rfl rfl ?_
  refine j_istore3 43 dX11_swap_42 rfl rfl rfl ?_
  refine j_iconst 44 (v := 0) dX11_swap_43 rfl rfl ?_
  refine j_istore4 46 dX11_swap_44 rfl rfl rfl ?_
  exact lp_swap d w n hn20 m hT hP (fun a b => itD n (swD d a b) 4) (fun _ _ => rfl) (itD n d 4) (fun m' s => ⟨rfl, s⟩) (hn d) 0 m30 none (Nat.zero_add _) ((q18.2.mono (by decide)).trans (q30.2.mono (by decide)))
set_option maxRecDepth 100000 in
theorem p_swap (m : Mem) (w : WF (m 69)) (hd : nb (m 69 1) 10000) (n : Nat) (hn20 : n ≤ 20) : JM l g 7 mX12_swap [rf g 68, .int (nI n)] m (RS (some (.int (swO (fun a b => itD n (swD (m 69) a b) 4) (hn (m 69)) (itD n (m 69) 4) (hn (m 69))).2)) (MK m)) := by
  refine JM_of (ls := [some (rf g 68), some (.int (nI n)), none, none, none, none, none, none]) pn_X12 rfl rfl ?_
  refine j_iload1 1 dX12_swap_0 rfl ?_
  refine j_i2l 2 dX12_swap_1 rfl ?_
  refine j_lconst 3 (v := 0) dX12_swap_2 rfl rfl ?_
  refine j_ldc2 6 dX12_swap_3 rfl kl_X12_241 ?_
  refine j_st3f 9 dX12_swap_6 rfl rfl cl_X12_47 rfl (c_in m _ 0 20) ?_
  refine j_if_ne_bz 18 12 dX12_swap_9 rfl rfl (fun h9 => ?_) (fun h9 => absurd ((rngN 20 (by decide)).mpr ⟨n, hn20, rfl⟩) h9)
  refine j_aload0 19 dX12_swap_18 rfl ?_
  refine j_vi0v 22 dX12_swap_19 rfl rfl cl_X12_226 rfl rfl (c_keepAside m) ?_
  have r0 : upR m 71 (rst (m 69) (m 71)) 69 = m 69 := upR_n (by decide)
  refine j_aload0 23 dX12_swap_22 rfl ?_
  refine j_iload1 24 dX12_swap_23 rfl ?_
  refine j_iconst 25 (v := nI 4) dX12_swap_24 rfl rfl ?_
  refine j_vi2s 28 dX12_swap_25 rfl rfl cl_X12_232 rfl rfl (c_behind (upR m 71 (rst (m 69) (m 71))) n 4 (by omega) (by omega) (by rw [r0]; exact w) (by rw [r0]; exact nb_up hd (by decide))) (fun m25 q25 => ?_)
  refine j_top (show itD n (upR m 71 (rst (m 69) (m 71)) 69) 4 = itD n (m 69) 4 by rw [r0]) ?_
  have z69 : m25 69 = m 69 := by rw [q25.1, r0, upR_s]; exact rst_back (fun _ _ => rfl)
  refine j_istore2 29 dX12_swap_28 rfl rfl rfl ?_
  refine j_iconst 30 (v := -1) dX12_swap_29 rfl rfl ?_
  refine j_istore3 31 dX12_swap_30 rfl rfl rfl ?_
  refine j_iconst 32 (v := 0) dX12_swap_31 rfl rfl ?_
  refine j_istore4 34 dX12_swap_32 rfl rfl rfl ?_
  exact lm_swap (m 69) (m 71) w hd n hn20 (upR m 71 (rst (m 69) (m 71))) upR_s (fun a b => itD n (swD (m 69) a b) 4) (fun _ _ => rfl) (itD n (m 69) 4) (fun m' r s => ⟨rfl, r, (Sm.rf.row (by decide)).trans (s.mono (by decide))⟩) (hn (m 69)) 0 _ none none none (Nat.zero_add _) z69 q25.2
theorem op_swap {m : Mem} (I : INV m) (b : Int32) : OPr l g mX11_swap mX12_swap [.int b] m := by
  obtain ⟨⟨wf, hd, hT, hP⟩, -⟩ := id I
  by_cases c : 0 ≤ b ∧ b ≤ 20
  · obtain ⟨n, hn, rfl⟩ := (rngN 20 (by decide)).mp c
    refine OPr_ask (d2 := 7) I (by decide) (by decide) (o_swap m (m 69) wf hT hP n hn) (fun m' s => ?_)
    have e := dn s
    have hq := p_swap (l := l) (g := g) m' (by rw [e]; exact wf) (by rw [e]; exact hd) n hn
    rw [e] at hq
    exact hq
  · exact OPr_err I (by decide) (by decide) (by decide) (e_swap m b c) (f_swap _ b c)
end O18
