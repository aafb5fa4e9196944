/-- the first greatest of V s, V (s+1), .. over b -/
def scV (V : Nat → Int32) (s : Nat) (b : Int32) : Nat → Int32
  | 0 => b
  | k + 1 => if V (s + k) ≤ scV V s b k then scV V s b k else V (s + k)
def scI (V : Nat → Int32) (s : Nat) (b a : Int32) : Nat → Int32
  | 0 => a
  | k + 1 => if V (s + k) ≤ scV V s b k then scI V s b a k else nI (s + k)
theorem sc_f {V : Nat → Int32} {s k : Nat} {b a : Int32} (q : V (s + k) ≤ scV V s b k) : scV V s b (k + 1) = scV V s b k ∧ scI V s b a (k + 1) = scI V s b a k := ⟨if_pos q, if_pos q⟩
theorem sc_t {V : Nat → Int32} {s k : Nat} {b a : Int32} (q : ¬ V (s + k) ≤ scV V s b k) : scV V s b (k + 1) = V (s + k) ∧ scI V s b a (k + 1) = nI (s + k) := ⟨if_neg q, if_neg q⟩
theorem sc_i {V : Nat → Int32} {s : Nat} {b a a' : Int32} (h : ¬ V (s + 0) ≤ b) : ∀ k, scI V s b a (k + 1) = scI V s b a' (k + 1)
  | 0 => by rw [(sc_t (k := 0) (a := a) h).2, (sc_t (k := 0) (a := a') h).2]
  | k + 1 => by
    have ih := sc_i (a := a) (a' := a') h k
    by_cases q : V (s + (k + 1)) ≤ scV V s b (k + 1)
    · rw [(sc_f (a := a) q).2, (sc_f (a := a') q).2, ih]
    · rw [(sc_t (a := a) q).2, (sc_t (a := a') q).2]
theorem rst_back {d e a : Nat → Int32} (h : ∀ k, 88 ≤ k → e k = d k) : rst (rst d a) e = d := by
  funext j
  unfold rst
  by_cases q : j < 88
  · rw [if_pos q, if_pos q]
  · rw [if_neg q]; exact h j (by omega)
theorem thT {m0 m : Mem} {d : Nat → Int32} (hs : Sm thS m0 m) (hT : TR 9 m0 d) : TR 9 m d := TR_same hT (fun b b1 b2 => hs b (by rcases (show b = 9 ∨ b = 10 ∨ b = 11 ∨ b = 12 ∨ b = 13 ∨ b = 14 ∨ b = 15 ∨ b = 16 ∨ b = 17 by omega) with rfl | rfl | rfl | rfl | rfl | rfl | rfl | rfl | rfl <;> decide))
theorem TR_sweep {t : Nat} {m : Mem} {d : Nat → Int32} {v : Int32} (h : TR t m d) : TR t (up2 m t 11 v) (upd1 d 3 v) := by
  obtain ⟨t9, t10, t11, t12, t13, ts, tt, th⟩ := h
  have o : ∀ j, j ≠ 3 → upd1 d 3 v j = d j := fun j hj => if_neg hj
  have r : ∀ b, b ≠ t → up2 m t 11 v b = m b := fun b hb => up2_r hb
  exact ⟨by rw [up2_k (by decide), o 0 (by decide)]; exact t9, by rw [up2_k (by decide), o 2 (by decide)]; exact t10, by rw [up2_s]; exact (if_pos rfl).symm, by rw [up2_k (by decide), o 4 (by decide)]; exact t12, by rw [up2_k (by decide), o 1 (by decide)]; exact t13, fun i hi => by rw [r _ (by omega), o _ (by omega)]; exact ts i hi, fun i hi => by rw [r _ (by omega), o _ (by omega)]; exact tt i hi, fun i hi k hk => by rw [r _ (by omega), th i hi k hk]; exact (o _ (by omega)).symm⟩
theorem WF_sweep {d : Nat → Int32} (w : WF d) {i : Nat} (h1 : 1 ≤ i) (h2 : i ≤ 30) : WF (upd1 d 3 (nI i)) := WF_low w (Or.inr (Or.inr (Or.inr (Or.inr ⟨rfl, ⟨i, by omega, rfl⟩, fun q => by have z := nI_lt (a := 0) (b := i) (by omega) (by omega); rw [q] at z; exact Int32.lt_irrefl z⟩))))
section O16
variable {l : Launch} {g : Gv}
set_option maxRecDepth 100000 in
theorem lp_sweepFor {Q : Option Value → Mem → Prop} (d : Nat → Int32) (w : WF d) (h n : Nat) (hh : h < 8) (hn : n ≤ 60) (m0 : Mem) (hT0 : TR 9 m0 d) (hP : PR 36 m0 d) (V : Nat → Int32) (hV : ∀ i, V i = hf (itD n (upd1 d 3 (nI i))) h 5) (a : Int32) (kk : ∀ m', Sm thS m0 m' → Q (some (.int (scI V 1 (-1) a 30))) m') : ∀ (k j : Nat) (m : Mem), j + k = 30 → Sm thS m0 m → J l g 6 mX11_sweepFor 33 [some (rf g 0), some (.int (nI h)), some (.int (nI n)), some (.int (scI V 1 (-1) a j)), some (.int (scV V 1 (-1) j)), some (.int (nI (1 + j)))] [] m Q := by
  intro k
  induction k with
  | zero =>
    intro j m e hs
    have e : j = 30 := by omega
    subst e
    refine j_iload5 35 dX11_sweepFor_33 rfl ?_
    refine j_bipush 37 (v := 30) dX11_sweepFor_35 rfl rfl ?_
    refine j_cmp_gt 99 40 dX11_sweepFor_37 rfl rfl (fun h37 => ?_) (fun h37 => absurd (by decide) h37)
    refine j_iload3 100 dX11_sweepFor_99 rfl ?_
    refine j_iret dX11_sweepFor_100 rfl ?_
    exact kk m hs
  | succ k ih =>
    intro j m e hs
    have e2 : nI (1 + j) + 1 = nI (1 + (j + 1)) := nI_1 (1 + j)
    have w1 := WF_sweep w (i := 1 + j) (by omega) (by omega)
    have oe : ∀ k, 88 ≤ k → upd1 d 3 (nI (1 + j)) k = d k := fun k hk => if_neg (by omega)
    refine j_iload5 35 dX11_sweepFor_33 rfl ?_
    refine j_bipush 37 (v := 30) dX11_sweepFor_35 rfl rfl ?_
    refine j_cmp_gt 99 40 dX11_sweepFor_37 rfl rfl (fun h37 => absurd h37 (nI_nlt (a := 30) (b := 1 + j) (by omega) (by decide))) (fun h37 => ?_)
    refine j_aload0 41 dX11_sweepFor_40 rfl ?_
    refine j_vi0w 44 dX11_sweepFor_41 rfl rfl cl_X11_217 rfl rfl (c_think m) (fun m41 q41 => ?_)
    have s1 : Sm thS m0 m41 := hs.trans (q41.2.mono (by decide))
    refine j_aload0 45 dX11_sweepFor_44 rfl ?_
    refine j_getR 48 dX11_sweepFor_45 rfl fl_X11_39 rfl rfl ?_
    refine j_iload5 50 dX11_sweepFor_48 rfl ?_
    refine j_putI 53 dX11_sweepFor_50 rfl fp_X11_106 rfl rfl ?_
    obtain ⟨l0, l1⟩ := LR2 hP (s1 39 (by decide)) (s1 40 (by decide)) (s1 43 (by decide)) (s1 44 (by decide))
    refine j_aload0 54 dX11_sweepFor_53 rfl ?_
    refine j_getR 57 dX11_sweepFor_54 rfl fl_X11_39 rfl rfl ?_
    refine j_iload2 58 dX11_sweepFor_57 rfl ?_
    refine j_aload0 59 dX11_sweepFor_58 rfl ?_
    refine j_getR 62 dX11_sweepFor_59 rfl fl_X11_48 rfl rfl ?_
    refine j_vi2w 65 dX11_sweepFor_62 rfl rfl cl_X11_205 rfl rfl (c_goDays_18 (up2 m41 18 11 (nI (1 + j))) (upd1 d 3 (nI (1 + j))) n (by omega) w1 (TR_sweep (q41.1 d (thT hs hT0))) (LR_congr (by decide) l0 (up2_r (by decide)) (up2_r (by decide)) oe) (LR_congr (by decide) l1 (up2_r (by decide)) (up2_r (by decide)) oe)) (fun m62 q62 => ?_)
    have v1 : m62 26 h = V (1 + j) := (q62.1.2.2.2.2.2.2.2 h hh 5 (by decide)).trans (hV _).symm
    refine j_aload0 66 dX11_sweepFor_65 rfl ?_
    refine j_getR 69 dX11_sweepFor_66 rfl fl_X11_39 rfl rfl ?_
    refine j_getR 72 dX11_sweepFor_69 rfl fl_X11_142 rfl rfl ?_
    refine j_iload1 73 dX11_sweepFor_72 rfl ?_
    refine j_iald 74 _ rfl hh dX11_sweepFor_73 rfl rfl ?_
    refine j_iload4 76 dX11_sweepFor_74 rfl ?_
    refine j_cmp_le 93 79 dX11_sweepFor_76 rfl rfl (fun h76 => ?_) (fun h76 => ?_)
    · refine j_iinc5 96 (1) dX11_sweepFor_93 rfl rfl rfl rfl ?_
      refine j_goto 33 dX11_sweepFor_96 rfl ?_
      rw [e2]
      rw [v1] at h76
      have s2 : Sm thS m0 m62 := (s1.up (by decide)).trans (q62.2.mono (by decide))
      have ih1 := ih (j + 1) m62 (by omega) s2
      first | (rw [(sc_f (a := a) (show V (1 + j) ≤ scV V 1 (-1) j from h76)).1, (sc_f (a := a) (show V (1 + j) ≤ scV V 1 (-1) j from h76)).2] at ih1; exact ih1) | (rw [(sc_t (a := a) (show ¬ V (1 + j) ≤ scV V 1 (-1) j from h76)).1, (sc_t (a := a) (show ¬ V (1 + j) ≤ scV V 1 (-1) j from h76)).2] at ih1; rw [v1]; exact ih1)
    · refine j_aload0 80 dX11_sweepFor_79 rfl ?_
      refine j_getR 83 dX11_sweepFor_80 rfl fl_X11_39 rfl rfl ?_
      refine j_getR 86 dX11_sweepFor_83 rfl fl_X11_142 rfl rfl ?_
      refine j_iload1 87 dX11_sweepFor_86 rfl ?_
      refine j_iald 88 _ rfl hh dX11_sweepFor_87 rfl rfl ?_
      refine j_istore4 90 dX11_sweepFor_88 rfl rfl rfl ?_
      refine j_iload5 92 dX11_sweepFor_90 rfl ?_
      refine j_istore3 93 dX11_sweepFor_92 rfl rfl rfl ?_
      refine j_iinc5 96 (1) dX11_sweepFor_93 rfl rfl rfl rfl ?_
      refine j_goto 33 dX11_sweepFor_96 rfl ?_
      rw [e2]
      rw [v1] at h76
      have s2 : Sm thS m0 m62 := (s1.up (by decide)).trans (q62.2.mono (by decide))
      have ih1 := ih (j + 1) m62 (by omega) s2
      first | (rw [(sc_f (a := a) (show V (1 + j) ≤ scV V 1 (-1) j from h76)).1, (sc_f (a := a) (show V (1 + j) ≤ scV V 1 (-1) j from h76)).2] at ih1; exact ih1) | (rw [(sc_t (a := a) (show ¬ V (1 + j) ≤ scV V 1 (-1) j from h76)).1, (sc_t (a := a) (show ¬ V (1 + j) ≤ scV V 1 (-1) j from h76)).2] at ih1; rw [v1]; exact ih1)
set_option maxRecDepth 100000 in
theorem lm_sweepFor {Q : Option Value → Mem → Prop} (d a0 : Nat → Int32) (w : WF d) (hd : nb (d 1) 10000) (h n : Nat) (hh : h < 8) (hn : n ≤ 60) (m0 : Mem) (z0 : m0 69 = d) (h71 : m0 71 = rst d a0) (V : Nat → Int32) (hV : ∀ i, V i = hf (itD n (upd1 d 3 (nI i))) h 5) (a : Int32) (kk : ∀ m', m' 69 = d → Sm [69, 73, 75] m0 m' → Q (some (.int (scI V 1 (-1) a 30))) m') : ∀ (k j : Nat) (m : Mem) (o : Option Value), j + k = 30 → m 69 = d → Sm [69, 73, 75] m0 m → J l g 7 mX12_sweepFor 38 [some (rf g 68), some (.int (nI h)), some (.int (nI n)), some (.int (scI V 1 (-1) a j)), some (.int (scV V 1 (-1) j)), some (.int (nI (1 + j))), o] [] m Q := by
  intro k
  induction k with
  | zero =>
    intro j m o e hm hs
    have e : j = 30 := by omega
    subst e
    refine j_iload5 40 dX12_sweepFor_38 rfl ?_
    refine j_bipush 42 (v := 30) dX12_sweepFor_40 rfl rfl ?_
    refine j_cmp_gt 85 45 dX12_sweepFor_42 rfl rfl (fun h42 => ?_) (fun h42 => absurd (by decide) h42)
    refine j_iload3 86 dX12_sweepFor_85 rfl ?_
    refine j_iret dX12_sweepFor_86 rfl ?_
    exact kk m hm hs
  | succ k ih =>
    intro j m o e hm hs
    have e2 : nI (1 + j) + 1 = nI (1 + (j + 1)) := nI_1 (1 + j)
    have r69 : up2 m 69 3 (nI (1 + j)) 69 = upd1 d 3 (nI (1 + j)) := by rw [up2_row69, hm]
    have w1 := WF_sweep w (i := 1 + j) (by omega) (by omega)
    have d1 : upd1 d 3 (nI (1 + j)) 1 = d 1 := if_neg (by decide)
    refine j_iload5 40 dX12_sweepFor_38 rfl ?_
    refine j_bipush 42 (v := 30) dX12_sweepFor_40 rfl rfl ?_
    refine j_cmp_gt 85 45 dX12_sweepFor_42 rfl rfl (fun h42 => absurd h42 (nI_nlt (a := 30) (b := 1 + j) (by omega) (by decide))) (fun h42 => ?_)
    refine j_aload0 46 dX12_sweepFor_45 rfl ?_
    refine j_getR 49 dX12_sweepFor_46 rfl fl_X12_7 rfl rfl ?_
    refine j_iconst 50 (v := nI 3) dX12_sweepFor_49 rfl rfl ?_
    refine j_iload5 52 dX12_sweepFor_50 rfl ?_
    refine j_iast 53 3 rfl (by decide) dX12_sweepFor_52 rfl rfl ?_
    refine j_aload0 54 dX12_sweepFor_53 rfl ?_
    refine j_iload2 55 dX12_sweepFor_54 rfl ?_
    refine j_iload1 56 dX12_sweepFor_55 rfl ?_
    refine j_iconst 57 (v := nI 5) dX12_sweepFor_56 rfl rfl ?_
    refine j_st2f 60 dX12_sweepFor_57 rfl rfl cl_X12_229 rfl (c_where _ h 5) ?_
    refine j_vi2s 63 dX12_sweepFor_60 rfl rfl cl_X12_232 rfl rfl (c_behind (up2 m 69 3 (nI (1 + j))) n (40 + 6 * h + 5) hn (by omega) (by rw [r69]; exact w1) (by rw [r69, d1]; exact nb_up hd (by decide))) (fun m60 q60 => ?_)
    have v1 : itD n (up2 m 69 3 (nI (1 + j)) 69) (40 + 6 * h + 5) = V (1 + j) := by rw [r69]; exact (hV _).symm
    rw [v1]
    have z69 : m60 69 = d := by rw [q60.1, r69, up2_r (by decide), hs 71 (by decide), h71]; exact rst_back (fun k hk => if_neg (by omega))
    have s2 : Sm [69, 73, 75] m0 m60 := (hs.up (by decide)).trans q60.2
    refine j_istore6 65 dX12_sweepFor_63 rfl rfl rfl ?_
    refine j_iload6 67 dX12_sweepFor_65 rfl ?_
    refine j_iload4 69 dX12_sweepFor_67 rfl ?_
    refine j_cmp_le 79 72 dX12_sweepFor_69 rfl rfl (fun h69 => ?_) (fun h69 => ?_)
    · refine j_iinc5 82 (1) dX12_sweepFor_79 rfl rfl rfl rfl ?_
      refine j_goto 38 dX12_sweepFor_82 rfl ?_
      rw [e2]
      have ih1 := ih (j + 1) m60 (some (.int (V (1 + j)))) (by omega) z69 s2
      first | (rw [(sc_f (a := a) (show V (1 + j) ≤ scV V 1 (-1) j from h69)).1, (sc_f (a := a) (show V (1 + j) ≤ scV V 1 (-1) j from h69)).2] at ih1; exact ih1) | (rw [(sc_t (a := a) (show ¬ V (1 + j) ≤ scV V 1 (-1) j from h69)).1, (sc_t (a := a) (show ¬ V (1 + j) ≤ scV V 1 (-1) j from h69)).2] at ih1; exact ih1)
    · refine j_iload5 74 dX12_sweepFor_72 rfl ?_
      refine j_istore3 75 dX12_sweepFor_74 rfl rfl rfl ?_
      refine j_iload6 77 dX12_sweepFor_75 rfl ?_
      refine j_istore4 79 dX12_sweepFor_77 rfl rfl rfl ?_
      refine j_iinc5 82 (1) dX12_sweepFor_79 rfl rfl rfl rfl ?_
      refine j_goto 38 dX12_sweepFor_82 rfl ?_
      rw [e2]
      have ih1 := ih (j + 1) m60 (some (.int (V (1 + j)))) (by omega) z69 s2
      first | (rw [(sc_f (a := a) (show V (1 + j) ≤ scV V 1 (-1) j from h69)).1, (sc_f (a := a) (show V (1 + j) ≤ scV V 1 (-1) j from h69)).2] at ih1; exact ih1) | (rw [(sc_t (a := a) (show ¬ V (1 + j) ≤ scV V 1 (-1) j from h69)).1, (sc_t (a := a) (show ¬ V (1 + j) ≤ scV V 1 (-1) j from h69)).2] at ih1; exact ih1)
set_option maxRecDepth 100000 in
theorem e_sweepFor (m : Mem) (a b : Int32) (c : ¬ ((0 ≤ a ∧ a < m 9 9 ∧ a < 8) ∧ (0 ≤ b ∧ b ≤ 60))) : JM l g 2 mX11_sweepFor [rf g 0, .int a, .int b] m (RF (some (.int (-1000000001))) (errC 1 m)) := by
  refine JM_of (ls := [some (rf g 0), some (.int a), some (.int b), none, none, none]) pn_X11 rfl rfl ?_
  refine j_aload0 1 dX11_sweepFor_0 rfl ?_
  refine j_iload1 2 dX11_sweepFor_1 rfl ?_
  refine j_vi1f 5 dX11_sweepFor_2 rfl rfl cl_X11_124 rfl rfl (c_isHeir m a) ?_
  refine j_if_eq_bz 18 8 dX11_sweepFor_5 rfl rfl (fun h5 => ?_) (fun h5 => ?_)
  · refine j_aload0 19 dX11_sweepFor_18 rfl ?_
    refine j_ldc 21 dX11_sweepFor_19 rfl kc_X11_81 ?_
    refine j_vi1f 24 dX11_sweepFor_21 rfl rfl cl_X11_82 rfl rfl (c_err1 m) ?_
    refine j_iret dX11_sweepFor_24 rfl ?_
    exact ⟨rfl, rfl⟩
  · refine j_iload2 9 dX11_sweepFor_8 rfl ?_
    refine j_iconst 10 (v := 0) dX11_sweepFor_9 rfl rfl ?_
    refine j_bipush 12 (v := 60) dX11_sweepFor_10 rfl rfl ?_
    refine j_st3f 15 dX11_sweepFor_12 rfl rfl cl_X11_86 rfl (c_within m b 0 60) ?_
    refine j_if_ne_bz 25 18 dX11_sweepFor_15 rfl rfl (fun h15 => ?_) (fun h15 => ?_)
    · exact absurd ⟨h5, h15⟩ c
    · refine j_aload0 19 dX11_sweepFor_18 rfl ?_
      refine j_ldc 21 dX11_sweepFor_19 rfl kc_X11_81 ?_
      refine j_vi1f 24 dX11_sweepFor_21 rfl rfl cl_X11_82 rfl rfl (c_err1 m) ?_
      refine j_iret dX11_sweepFor_24 rfl ?_
      exact ⟨rfl, rfl⟩
set_option maxRecDepth 100000 in
theorem f_sweepFor (m : Mem) (a b : Int32) (c : ¬ ((0 ≤ a ∧ a ≤ m 69 0 - 1) ∧ (0 ≤ b ∧ b ≤ 60))) : JM l g 2 mX12_sweepFor [rf g 68, .int a, .int b] m (RF (some (.int (-1000000001))) (errM 1 m)) := by
  refine JM_of (ls := [some (rf g 68), some (.int a), some (.int b), none, none, none, none]) pn_X12 rfl rfl ?_
  refine j_aload0 1 dX12_sweepFor_0 rfl ?_
  refine j_iload1 2 dX12_sweepFor_1 rfl ?_
  refine j_vi1f 5 dX12_sweepFor_2 rfl rfl cl_X12_199 rfl rfl (c_misHeir m a) ?_
  refine j_if_eq_bz 20 8 dX12_sweepFor_5 rfl rfl (fun h5 => ?_) (fun h5 => ?_)
  · refine j_aload0 21 dX12_sweepFor_20 rfl ?_
    refine j_iconst 22 (v := 1) dX12_sweepFor_21 rfl rfl ?_
    refine j_vi1f 25 dX12_sweepFor_22 rfl rfl cl_X12_126 rfl rfl (c_finds1 m) ?_
    refine j_iret dX12_sweepFor_25 rfl ?_
    exact ⟨rfl, rfl⟩
  · refine j_iload2 9 dX12_sweepFor_8 rfl ?_
    refine j_i2l 10 dX12_sweepFor_9 rfl ?_
    refine j_lconst 11 (v := 0) dX12_sweepFor_10 rfl rfl ?_
    refine j_ldc2 14 dX12_sweepFor_11 rfl kl_X12_212 ?_
    refine j_st3f 17 dX12_sweepFor_14 rfl rfl cl_X12_47 rfl (c_in m b 0 60) ?_
    refine j_if_ne_bz 26 20 dX12_sweepFor_17 rfl rfl (fun h17 => ?_) (fun h17 => ?_)
    · exact absurd ⟨h5, h17⟩ c
    · refine j_aload0 21 dX12_sweepFor_20 rfl ?_
      refine j_iconst 22 (v := 1) dX12_sweepFor_21 rfl rfl ?_
      refine j_vi1f 25 dX12_sweepFor_22 rfl rfl cl_X12_126 rfl rfl (c_finds1 m) ?_
      refine j_iret dX12_sweepFor_25 rfl ?_
      exact ⟨rfl, rfl⟩
set_option maxRecDepth 100000 in
theorem o_sweepFor (m : Mem) (d : Nat → Int32) (w : WF d) (hT : TR 9 m d) (hP : PR 36 m d) (h n : Nat) (hh : h < 8) (hn : n ≤ 60) (h1 : 0 ≤ nI h ∧ nI h < m 9 9 ∧ nI h < 8) : JM l g 6 mX11_sweepFor [rf g 0, .int (nI h), .int (nI n)] m (RS (some (.int (scI (fun i => hf (itD n (upd1 d 3 (nI i))) h 5) 1 (-1) 1 30))) (Sm thS m)) := by
  refine JM_of (ls := [some (rf g 0), some (.int (nI h)), some (.int (nI n)), none, none, none]) pn_X11 rfl rfl ?_
  refine j_aload0 1 dX11_sweepFor_0 rfl ?_
  refine j_iload1 2 dX11_sweepFor_1 rfl ?_
  refine j_vi1f 5 dX11_sweepFor_2 rfl rfl cl_X11_124 rfl rfl (c_isHeir m _) ?_
  refine j_if_eq_bz 18 8 dX11_sweepFor_5 rfl rfl (fun h5 => absurd h1 h5) (fun h5 => ?_)
  refine j_iload2 9 dX11_sweepFor_8 rfl ?_
  refine j_iconst 10 (v := 0) dX11_sweepFor_9 rfl rfl ?_
  refine j_bipush 12 (v := 60) dX11_sweepFor_10 rfl rfl ?_
  refine j_st3f 15 dX11_sweepFor_12 rfl rfl cl_X11_86 rfl (c_within m _ 0 60) ?_
  refine j_if_ne_bz 25 18 dX11_sweepFor_15 rfl rfl (fun h15 => ?_) (fun h15 => absurd ((rngN 60 (by decide)).mpr ⟨n, hn, rfl⟩) h15)
  refine j_iconst 26 (v := 1) dX11_sweepFor_25 rfl rfl ?_
  refine j_istore3 27 dX11_sweepFor_26 rfl rfl rfl ?_
  refine j_iconst 28 (v := -1) dX11_sweepFor_27 rfl rfl ?_
  refine j_istore4 30 dX11_sweepFor_28 rfl rfl rfl ?_
  refine j_iconst 31 (v := 1) dX11_sweepFor_30 rfl rfl ?_
  refine j_istore5 33 dX11_sweepFor_31 rfl rfl rfl ?_
  exact lp_sweepFor d w h n hh hn m hT hP (fun i => hf (itD n (upd1 d 3 (nI i))) h 5) (fun _ => rfl) 1 (fun m' s => ⟨rfl, s⟩) 30 0 m rfl Sm.rf
set_option maxRecDepth 100000 in
theorem p_sweepFor (m : Mem) (w : WF (m 69)) (hd : nb (m 69 1) 10000) (h n : Nat) (hh : h < 8) (hn : n ≤ 60) (h1 : 0 ≤ nI h ∧ nI h ≤ m 69 0 - 1) : JM l g 7 mX12_sweepFor [rf g 68, .int (nI h), .int (nI n)] m (RS (some (.int (scI (fun i => hf (itD n (upd1 (m 69) 3 (nI i))) h 5) 1 (-1) 0 30))) (MK m)) := by
  refine JM_of (ls := [some (rf g 68), some (.int (nI h)), some (.int (nI n)), none, none, none, none]) pn_X12 rfl rfl ?_
  refine j_aload0 1 dX12_sweepFor_0 rfl ?_
  refine j_iload1 2 dX12_sweepFor_1 rfl ?_
  refine j_vi1f 5 dX12_sweepFor_2 rfl rfl cl_X12_199 rfl rfl (c_misHeir m _) ?_
  refine j_if_eq_bz 20 8 dX12_sweepFor_5 rfl rfl (fun h5 => absurd h1 h5) (fun h5 => ?_)
  refine j_iload2 9 dX12_sweepFor_8 rfl ?_
  refine j_i2l 10 dX12_sweepFor_9 rfl ?_
  refine j_lconst 11 (v := 0) dX12_sweepFor_10 rfl rfl ?_
  refine j_ldc2 14 dX12_sweepFor_11 rfl kl_X12_212 ?_
  refine j_st3f 17 dX12_sweepFor_14 rfl rfl cl_X12_47 rfl (c_in m _ 0 60) ?_
  refine j_if_ne_bz 26 20 dX12_sweepFor_17 rfl rfl (fun h17 => ?_) (fun h17 => absurd ((rngN 60 (by decide)).mpr ⟨n, hn, rfl⟩) h17)
  refine j_aload0 27 dX12_sweepFor_26 rfl ?_
  refine j_vi0v 30 dX12_sweepFor_27 rfl rfl cl_X12_226 rfl rfl (c_keepAside m) ?_
  refine j_iconst 31 (v := 0) dX12_sweepFor_30 rfl rfl ?_
  refine j_istore3 32 dX12_sweepFor_31 rfl rfl rfl ?_
  refine j_iconst 33 (v := -1) dX12_sweepFor_32 rfl rfl ?_
  refine j_istore4 35 dX12_sweepFor_33 rfl rfl rfl ?_
  refine j_iconst 36 (v := 1) dX12_sweepFor_35 rfl rfl ?_
  refine j_istore5 38 dX12_sweepFor_36 rfl rfl rfl ?_
  exact lm_sweepFor (m 69) (m 71) w hd h n hh hn _ (upR_n (by decide)) upR_s (fun i => hf (itD n (upd1 (m 69) 3 (nI i))) h 5) (fun _ => rfl) 0 (fun m' r s => ⟨rfl, r, (Sm.rf.row (by decide)).trans (s.mono (by decide))⟩) 30 0 _ none rfl (upR_n (by decide)) Sm.rf
theorem op_sweepFor {m : Mem} (I : INV m) (a b : Int32) : OPr l g mX11_sweepFor mX12_sweepFor [.int a, .int b] m := by
  obtain ⟨⟨wf, hd, hT, hP⟩, -⟩ := id I
  by_cases c : (0 ≤ a ∧ a < m 69 0 ∧ a < 8) ∧ (0 ≤ b ∧ b ≤ 60)
  · obtain ⟨h1, h2⟩ := c
    obtain ⟨i, hi, rfl⟩ := (isH_c wf).mp h1
    obtain ⟨n, hn, rfl⟩ := (rngN 60 (by decide)).mp h2
    have n8 := wf.n.1
    have hh : i < 8 := by omega
    refine OPr_ask (d2 := 7) I (by decide) (by decide) (o_sweepFor m (m 69) wf hT hP i n hh hn (by rw [hT.1]; exact h1)) (fun m' s => ?_)
    have e := dn s
    have hq := p_sweepFor (l := l) (g := g) m' (by rw [e]; exact wf) (by rw [e]; exact hd) i n hh hn (by rw [e]; exact (isH_m wf).mpr ⟨i, hi, rfl⟩)
    rw [e] at hq
    have z : ¬ (fun i_1 => hf (itD n (upd1 (m 69) 3 (nI i_1))) i 5) (1 + 0) ≤ (-1 : Int32) := by
      obtain ⟨v, hv, ev⟩ := ((itD_wf n (WF_sweep wf (i := 1 + 0) (by omega) (by omega))).hw hh).2.2.2.2.2.2
      show ¬ hf (itD n (upd1 (m 69) 3 (nI (1 + 0)))) i 5 ≤ -1
      rw [show hf (itD n (upd1 (m 69) 3 (nI (1 + 0)))) i 5 = nI v from ev]
      exact fun q => absurd (Int32.le_trans (nI_pos' (show v < 2 ^ 31 by omega)) q) (by decide)
    rw [show scI (fun j => hf (itD n (upd1 (m 69) 3 (nI j))) i 5) 1 (-1) 1 30 = scI (fun j => hf (itD n (upd1 (m 69) 3 (nI j))) i 5) 1 (-1) 0 30 from sc_i (V := fun j => hf (itD n (upd1 (m 69) 3 (nI j))) i 5) (s := 1) (b := -1) (a := 1) (a' := 0) z 29]
    exact hq
  · exact OPr_err I (by decide) (by decide) (by decide) (e_sweepFor m a b (by rw [hT.1]; exact c)) (f_sweepFor _ a b (fun q => c ⟨(isH_c wf).mpr ((isH_m wf).mp (by have := q.1; rw [errC_o (by decide)] at this; exact this)), q.2⟩))
end O16
