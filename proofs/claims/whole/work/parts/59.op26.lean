/-! whence -/
abbrev tolP (e : Nat → Int32) (h : Nat) (f : Nat → Int32) (K : Nat) : Prop := ∀ i, i < K → hf (itD (i + 1) e) h 4 = f i
def whD (d : Nat → Int32) (h k : Nat) : Nat → Int32 := upd1 (upd1 (upd1 d (40 + 6 * h + 0) (nI (k / 16))) (40 + 6 * h + 3) 0) (40 + 6 * h + 4) (nI (k % 16))
abbrev whP (d : Nat → Int32) (h : Nat) (f : Nat → Int32) (K k : Nat) : Prop := tolP (whD d h k) h f K
theorem whD_o {d : Nat → Int32} {h k j : Nat} (h0 : j ≠ 40 + 6 * h + 0) (h3 : j ≠ 40 + 6 * h + 3) (h4 : j ≠ 40 + 6 * h + 4) : whD d h k j = d j := by
  unfold whD upd1
  rw [if_neg h4, if_neg h3, if_neg h0]
theorem WF_wh {d : Nat → Int32} (w : WF d) {h k : Nat} (hh : h < 8) (hk : k < 112) : WF (whD d h k) := by
  refine WF_heir' w (h := h) (fun j hj => whD_o (by omega) (by omega) (by omega)) hh ?_
  obtain ⟨a0, a1, a2, a3, a4, a5, a6⟩ := w.hw hh
  have e0 : whD d h k (40 + 6 * h + 0) = nI (k / 16) := by unfold whD upd1; rw [if_neg (by omega), if_neg (by omega), if_pos rfl]
  have e3 : whD d h k (40 + 6 * h + 3) = 0 := by unfold whD upd1; rw [if_neg (by omega), if_pos rfl]
  have e4 : whD d h k (40 + 6 * h + 4) = nI (k % 16) := by unfold whD upd1; rw [if_pos rfl]
  have e1 : whD d h k (40 + 6 * h + 1) = d (40 + 6 * h + 1) := whD_o (by omega) (by omega) (by omega)
  have e2 : whD d h k (40 + 6 * h + 2) = d (40 + 6 * h + 2) := whD_o (by omega) (by omega) (by omega)
  have e5 : whD d h k (40 + 6 * h + 5) = d (40 + 6 * h + 5) := whD_o (by omega) (by omega) (by omega)
  refine ⟨by show nb (whD d h k (40 + 6 * h + 0)) 7; rw [e0]; exact ⟨_, by omega, rfl⟩, by show nb (whD d h k (40 + 6 * h + 1)) 10; rw [e1]; exact a1, by show nb (whD d h k (40 + 6 * h + 2)) 16; rw [e2]; exact a2, by show nb (whD d h k (40 + 6 * h + 3)) 100; rw [e3]; exact ⟨0, by decide, rfl⟩, fun _ => ?_, fun q => ?_, by show nb (whD d h k (40 + 6 * h + 5)) 10000; rw [e5]; exact a6⟩
  · show nb (whD d h k (40 + 6 * h + 4)) 16
    rw [e4]
    exact ⟨_, m16 k, rfl⟩
  · exact absurd (show whD d h k (40 + 6 * h + 3) = 0 from e3) q
def fsI (P : Nat → Prop) [DecidablePred P] (b : Int32) : Nat → Int32
  | 0 => b
  | k + 1 => if P k ∧ cN P k = 0 then nI (100 * (k / 16) + k % 16) else fsI P b k
theorem fs_t {P : Nat → Prop} [DecidablePred P] {b : Int32} {k : Nat} (h : P k) (h0 : cN P k = 0) : fsI P b (k + 1) = nI (100 * (k / 16) + k % 16) := if_pos ⟨h, h0⟩
theorem fs_f {P : Nat → Prop} [DecidablePred P] {b : Int32} {k : Nat} (h : ¬ (P k ∧ cN P k = 0)) : fsI P b (k + 1) = fsI P b k := if_neg h
theorem fs_0 {P : Nat → Prop} [DecidablePred P] {b : Int32} : ∀ {k : Nat}, cN P k = 0 → fsI P b k = b
  | 0, _ => rfl
  | k + 1, h => by
    by_cases q : P k
    · rw [cN_t q] at h; omega
    · rw [cN_f q] at h
      rw [fs_f (fun z => q z.1)]
      exact fs_0 h
theorem fs_1 {P : Nat → Prop} [DecidablePred P] : ∀ {k : Nat}, k ≤ 112 → cN P k ≠ 0 → ∃ c, c < 1000 ∧ ∀ b, fsI P b k = nI c
  | 0, _, h => absurd rfl h
  | k + 1, hk, h => by
    by_cases z : cN P k = 0
    · by_cases q : P k
      · exact ⟨100 * (k / 16) + k % 16, by omega, fun b => fs_t q z⟩
      · rw [cN_f q] at h; exact absurd z h
    · obtain ⟨c, c1, c2⟩ := fs_1 (k := k) (by omega) z
      exact ⟨c, c1, fun b => (fs_f (fun y => z y.2)).trans (c2 b)⟩
theorem fs_neg {P : Nat → Prop} [DecidablePred P] {k : Nat} (hk : k ≤ 112) : 0 ≤ fsI P (-1) k ↔ cN P k ≠ 0 := by
  constructor
  · intro h q
    rw [fs_0 q] at h
    exact absurd h (by decide)
  · intro h
    obtain ⟨c, c1, c2⟩ := fs_1 hk h
    rw [c2]
    exact nI_pos' (by omega)
theorem n0_c {P : Nat → Prop} [DecidablePred P] {k : Nat} (hk : k ≤ 112) : nI (cN P k) = 0 ↔ cN P k = 0 := nI_eq (b := 0) (by have := cN_le P k; omega) (by decide)
section O26
variable {l : Launch} {g : Gv}
set_option maxRecDepth 100000 in
theorem lp_lies_0 {Q : Option Value → Mem → Prop} (e : Nat → Int32) (w : WF e) (h : Nat) (hh : h < 8) (f : Nat → Int32) (K : Nat) (h40 : K ≤ 40) (m0 : Mem) (hK : m0 66 0 = nI K) (hf0 : m0 61 = f) (k1 : tolP e h f K → ∀ m', Sm thS m0 m' → Q (some (.int 1)) m') (k0 : ¬ tolP e h f K → ∀ m', Sm thS m0 m' → Q (some (.int 0)) m') : ∀ (k i : Nat) (m : Mem), i + k = K → (∀ j, j < i → hf (itD (j + 1) e) h 4 = f j) → TR 18 m (itD i e) → LR m 39 (itD i e) 0 → LR m 43 (itD i e) 1 → Sm thS m0 m → J l g 5 mX11_liesAsTold 2 [some (rf g 0), some (.int (nI h)), some (.int (nI 0)), some (.int (nI i))] [] m Q := by
  intro k
  induction k with
  | zero =>
    intro i m ei ha hT hl0 hl1 hs
    have ei : i = K := by omega
    subst ei
    have e66 : m 66 0 = nI i := (congrFun (hs 66 (by decide)) _).trans hK
    refine j_iload3 3 dX11_liesAsTold_2 rfl ?_
    refine j_aload0 4 dX11_liesAsTold_3 rfl ?_
    refine j_getR 7 dX11_liesAsTold_4 rfl fl_X11_71 rfl rfl ?_
    refine j_iload2 8 dX11_liesAsTold_7 rfl ?_
    refine j_iald 9 0 rfl (by decide) dX11_liesAsTold_8 rfl rfl ?_
    refine j_top e66 ?_
    refine j_cmp_ge 57 12 dX11_liesAsTold_9 rfl rfl (fun h9 => ?_) (fun h9 => absurd (Int32.le_refl _) h9)
    refine j_iconst 58 (v := 1) dX11_liesAsTold_57 rfl rfl ?_
    refine j_zret (by first | exact bz_01 | exact Or.inl rfl | exact Or.inr rfl | assumption) dX11_liesAsTold_58 rfl ?_
    exact k1 ha m hs
  | succ k ih =>
    intro i m ei ha hT hl0 hl1 hs
    have e2 : nI i + 1 = nI (i + 1) := nI_1 i
    have e66 : m 66 0 = nI K := (congrFun (hs 66 (by decide)) _).trans hK
    have wi := itD_wf i w
    refine j_iload3 3 dX11_liesAsTold_2 rfl ?_
    refine j_aload0 4 dX11_liesAsTold_3 rfl ?_
    refine j_getR 7 dX11_liesAsTold_4 rfl fl_X11_71 rfl rfl ?_
    refine j_iload2 8 dX11_liesAsTold_7 rfl ?_
    refine j_iald 9 0 rfl (by decide) dX11_liesAsTold_8 rfl rfl ?_
    refine j_top e66 ?_
    refine j_cmp_ge 57 12 dX11_liesAsTold_9 rfl rfl (fun h9 => absurd h9 (nI_ge (a := i) (b := K) (by omega) (by omega))) (fun h9 => ?_)
    refine j_iload3 13 dX11_liesAsTold_12 rfl ?_
    refine j_bipush 15 (v := 40) dX11_liesAsTold_13 rfl rfl ?_
    refine j_cmp_ge 57 18 dX11_liesAsTold_15 rfl rfl (fun h15 => absurd h15 (nI_ge (a := i) (b := 40) (by omega) (by decide))) (fun h15 => ?_)
    refine j_aload0 19 dX11_liesAsTold_18 rfl ?_
    refine j_getR 22 dX11_liesAsTold_19 rfl fl_X11_39 rfl rfl ?_
    refine j_aload0 23 dX11_liesAsTold_22 rfl ?_
    refine j_getR 26 dX11_liesAsTold_23 rfl fl_X11_48 rfl rfl ?_
    refine j_vi1w 29 dX11_liesAsTold_26 rfl rfl cl_X11_213 rfl rfl (c_goDay_18 m (itD i e) wi hT hl0 hl1) (fun m26 q26 => ?_)
    have t1 : TR 18 m26 (itD (i + 1) e) := by rw [itD_s]; exact q26.1
    have s2 : Sm thS m0 m26 := hs.trans (q26.2.mono (by decide))
    have v1 : m26 25 h = hf (itD (i + 1) e) h 4 := t1.2.2.2.2.2.2.2 h hh 4 (by decide)
    have v2 : m26 61 i = f i := by rw [s2 61 (by decide), hf0]
    refine j_aload0 30 dX11_liesAsTold_29 rfl ?_
    refine j_getR 33 dX11_liesAsTold_30 rfl fl_X11_39 rfl rfl ?_
    refine j_getR 36 dX11_liesAsTold_33 rfl fl_X11_139 rfl rfl ?_
    refine j_iload1 37 dX11_liesAsTold_36 rfl ?_
    refine j_iald 38 _ rfl hh dX11_liesAsTold_37 rfl rfl ?_
    refine j_aload0 39 dX11_liesAsTold_38 rfl ?_
    refine j_getR 42 dX11_liesAsTold_39 rfl fl_X11_64 rfl rfl ?_
    refine j_iload2 43 dX11_liesAsTold_42 rfl ?_
    refine j_aald 44 0 rfl (by decide) dX11_liesAsTold_43 rfl (by decide) ?_
    refine j_ref (b := 61) (by decide) ?_
    refine j_iload3 45 dX11_liesAsTold_44 rfl ?_
    refine j_iald 46 _ rfl (show i < 40 by omega) dX11_liesAsTold_45 rfl rfl ?_
    refine j_cmp_eq 51 49 dX11_liesAsTold_46 rfl rfl (fun h46 => ?_) (fun h46 => ?_)
    · refine j_iinc3 54 (1) dX11_liesAsTold_51 rfl rfl rfl rfl ?_
      refine j_goto 2 dX11_liesAsTold_54 rfl ?_
      rw [e2]
      refine ih (i + 1) m26 (by omega) (fun j hj => ?_) t1 ?_ ?_ s2
      · by_cases q : j = i
        · rw [q]; exact v1.symm.trans (h46.trans v2)
        · exact ha j (by omega)
      · rw [itD_s]; exact LR_congr (by decide) hl0 (q26.2 39 (by decide)) (q26.2 40 (by decide)) (fun k hk => dayF_k wi (by omega) (by omega) (by omega))
      · rw [itD_s]; exact LR_congr (by decide) hl1 (q26.2 43 (by decide)) (q26.2 44 (by decide)) (fun k hk => dayF_k wi (by omega) (by omega) (by omega))
    · refine j_iconst 50 (v := 0) dX11_liesAsTold_49 rfl rfl ?_
      refine j_zret (by first | exact bz_01 | exact Or.inl rfl | exact Or.inr rfl | assumption) dX11_liesAsTold_50 rfl ?_
      exact k0 (fun q => h46 (v1.trans ((q i (by omega)).trans v2.symm))) m26 s2
set_option maxRecDepth 100000 in
theorem c_lies_0 (m : Mem) (e : Nat → Int32) (w : WF e) (h : Nat) (hh : h < 8) (f : Nat → Int32) (K : Nat) (h40 : K ≤ 40) (hK : m 66 0 = nI K) (hf0 : m 61 = f) (hT : TR 18 m e) (hl0 : LR m 39 e 0) (hl1 : LR m 43 e 1) : JM l g 5 mX11_liesAsTold [rf g 0, .int (nI h), .int (nI 0)] m (RS (some (.int (bz (tolP e h f K)))) (Sm thS m)) := by
  refine JM_of (ls := [some (rf g 0), some (.int (nI h)), some (.int (nI 0)), none]) pn_X11 rfl rfl ?_
  refine j_iconst 1 (v := 0) dX11_liesAsTold_0 rfl rfl ?_
  refine j_istore3 2 dX11_liesAsTold_1 rfl rfl rfl ?_
  exact lp_lies_0 e w h hh f K h40 m hK hf0 (fun q m' s => ⟨by rw [bz_t q], s⟩) (fun q m' s => ⟨by rw [bz_f q], s⟩) K 0 m (Nat.zero_add _) (fun j hj => absurd hj (Nat.not_lt_zero j)) hT hl0 hl1 Sm.rf
set_option maxRecDepth 100000 in
theorem li_whence_0 {Q : Option Value → Mem → Prop} (d : Nat → Int32) (w : WF d) (h : Nat) (hh : h < 8) (v : Int32) (f : Nat → Int32) (K : Nat) (h40 : K ≤ 40) (m0 : Mem) (hT0 : TR 9 m0 d) (hP : PR 36 m0 d) (hK : m0 66 0 = nI K) (hf0 : m0 61 = f) (a : Nat) (ha : a < 7) (kk : ∀ m', Sm thS m0 m' → ∀ o, J l g 6 mX11_whence 55 [some (rf g 0), some (.int (nI 0)), some (.int (nI h)), some (.int v), some (.int (nI (cN (whP d h f K) (16 * (a + 1))))), some (.int (fsI (whP d h f K) (-1) (16 * (a + 1)))), some (.int (nI (a + 1))), o] [] m' Q) : ∀ (k j : Nat) (m : Mem), j + k = 16 → Sm thS m0 m → J l g 6 mX11_whence 65 [some (rf g 0), some (.int (nI 0)), some (.int (nI h)), some (.int v), some (.int (nI (cN (whP d h f K) (16 * a + j)))), some (.int (fsI (whP d h f K) (-1) (16 * a + j))), some (.int (nI a)), some (.int (nI j))] [] m Q := by
  intro k
  induction k with
  | zero =>
    intro j m e hs
    have e : j = 16 := by omega
    subst e
    have e1 : nI a + 1 = nI (a + 1) := nI_1 a
    have e16 : 16 * a + 16 = 16 * (a + 1) := by omega
    refine j_iload7 67 dX11_whence_65 rfl ?_
    refine j_bipush 69 (v := 16) dX11_whence_67 rfl rfl ?_
    refine j_cmp_ge 146 72 dX11_whence_69 rfl rfl (fun h69 => ?_) (fun h69 => absurd (by decide) h69)
    refine j_iinc6 149 (1) dX11_whence_146 rfl rfl rfl rfl ?_
    refine j_goto 55 dX11_whence_149 rfl ?_
    rw [e1, e16]
    exact kk m hs _
  | succ k ih =>
    intro j m e hs
    have e2 : nI j + 1 = nI (j + 1) := nI_1 j
    have e3 : nI (cN (whP d h f K) (16 * a + j)) + 1 = nI (cN (whP d h f K) (16 * a + j) + 1) := nI_1 _
    have hk : 16 * a + j < 112 := by omega
    have x1 : (16 * a + j) / 16 = a := by omega
    have x2 : (16 * a + j) % 16 = j := by omega
    have w1 := WF_wh w (h := h) (k := 16 * a + j) hh hk
    have oe : ∀ k, 88 ≤ k → whD d h (16 * a + j) k = d k := fun k hk => whD_o (by omega) (by omega) (by omega)
    refine j_iload7 67 dX11_whence_65 rfl ?_
    refine j_bipush 69 (v := 16) dX11_whence_67 rfl rfl ?_
    refine j_cmp_ge 146 72 dX11_whence_69 rfl rfl (fun h69 => absurd h69 (nI_ge (a := j) (b := 16) (by omega) (by decide))) (fun h69 => ?_)
    refine j_aload0 73 dX11_whence_72 rfl ?_
    refine j_vi0w 76 dX11_whence_73 rfl rfl cl_X11_217 rfl rfl (c_think m) (fun m73 q73 => ?_)
    have s1 : Sm thS m0 m73 := hs.trans (q73.2.mono (by decide))
    have t1 := q73.1 d (thT hs hT0)
    obtain ⟨l0, l1⟩ := LR2 hP (s1 39 (by decide)) (s1 40 (by decide)) (s1 43 (by decide)) (s1 44 (by decide))
    have t2 : TR 18 (up2 (up2 (up2 m73 21 h (nI a)) 24 h 0) 25 h (nI j)) (whD d h (16 * a + j)) := by
      have t := TR_hf (r := 4) (v := nI j) (TR_hf (r := 3) (v := 0) (TR_hf (r := 0) (v := nI a) t1 hh (by decide)) hh (by decide)) hh (by decide)
      unfold whD
      rw [x1, x2]
      exact t
    refine j_aload0 77 dX11_whence_76 rfl ?_
    refine j_getR 80 dX11_whence_77 rfl fl_X11_39 rfl rfl ?_
    refine j_getR 83 dX11_whence_80 rfl fl_X11_127 rfl rfl ?_
    refine j_iload2 84 dX11_whence_83 rfl ?_
    refine j_iload6 86 dX11_whence_84 rfl ?_
    refine j_iast 87 _ rfl hh dX11_whence_86 rfl rfl ?_
    refine j_aload0 88 dX11_whence_87 rfl ?_
    refine j_getR 91 dX11_whence_88 rfl fl_X11_39 rfl rfl ?_
    refine j_getR 94 dX11_whence_91 rfl fl_X11_136 rfl rfl ?_
    refine j_iload2 95 dX11_whence_94 rfl ?_
    refine j_iconst 96 (v := 0) dX11_whence_95 rfl rfl ?_
    refine j_iast 97 _ rfl hh dX11_whence_96 rfl rfl ?_
    refine j_aload0 98 dX11_whence_97 rfl ?_
    refine j_getR 101 dX11_whence_98 rfl fl_X11_39 rfl rfl ?_
    refine j_getR 104 dX11_whence_101 rfl fl_X11_139 rfl rfl ?_
    refine j_iload2 105 dX11_whence_104 rfl ?_
    refine j_iload7 107 dX11_whence_105 rfl ?_
    refine j_iast 108 _ rfl hh dX11_whence_107 rfl rfl ?_
    have s3 : Sm thS m0 (up2 (up2 (up2 m73 21 h (nI a)) 24 h 0) 25 h (nI j)) := ((s1.up (by decide)).up (by decide)).up (by decide)
    refine j_aload0 109 dX11_whence_108 rfl ?_
    refine j_iload2 110 dX11_whence_109 rfl ?_
    refine j_iload1 111 dX11_whence_110 rfl ?_
    refine j_vi2s 114 dX11_whence_111 rfl rfl cl_X11_236 rfl rfl (c_lies_0 (up2 (up2 (up2 m73 21 h (nI a)) 24 h 0) 25 h (nI j)) (whD d h (16 * a + j)) w1 h hh f K h40 ((congrFun (s3 66 (by decide)) _).trans hK) ((s3 61 (by decide)).trans hf0) t2 (LR_congr (by decide) l0 ((up2_r (by decide)).trans ((up2_r (by decide)).trans (up2_r (by decide)))) ((up2_r (by decide)).trans ((up2_r (by decide)).trans (up2_r (by decide)))) oe) (LR_congr (by decide) l1 ((up2_r (by decide)).trans ((up2_r (by decide)).trans (up2_r (by decide)))) ((up2_r (by decide)).trans ((up2_r (by decide)).trans (up2_r (by decide)))) oe)) (fun m111 q111 => ?_)
    refine j_if_eq_bz 140 117 dX11_whence_114 rfl rfl (fun h114 => ?_) (fun h114 => ?_)
    · refine j_iinc7 143 (1) dX11_whence_140 rfl rfl rfl rfl ?_
      refine j_goto 65 dX11_whence_143 rfl ?_
      have s2 : Sm thS m0 m111 := s3.trans q111
      have ih1 := ih (j + 1) m111 (by omega) s2
      rw [show 16 * a + (j + 1) = 16 * a + j + 1 by omega] at ih1
      rw [e2]
      by_cases hp : whP d h f K (16 * a + j)
      · rw [cN_t hp] at ih1
        by_cases h0 : cN (whP d h f K) (16 * a + j) = 0
        · rw [fs_t hp h0, x1, x2] at ih1
          first | (rw [e3]; exact ih1) | exact absurd h122 (fun q => (fs_neg (by omega)).mp q h0) | exact absurd hp h114
        · rw [fs_f (fun z => h0 z.2)] at ih1
          first | (rw [e3]; exact ih1) | exact absurd ((fs_neg (by omega)).mpr h0) h122 | exact absurd hp h114
      · rw [cN_f hp, fs_f (fun z => hp z.1)] at ih1
        first | exact ih1 | exact absurd h114 hp
    · refine j_iinc4 120 (1) dX11_whence_117 rfl rfl rfl rfl ?_
      refine j_iload5 122 dX11_whence_120 rfl ?_
      refine j_if_ge 136 125 dX11_whence_122 rfl rfl (fun h122 => ?_) (fun h122 => ?_)
      · refine j_iload5 138 dX11_whence_136 rfl ?_
        refine j_istore5 140 dX11_whence_138 rfl rfl rfl ?_
        refine j_iinc7 143 (1) dX11_whence_140 rfl rfl rfl rfl ?_
        refine j_goto 65 dX11_whence_143 rfl ?_
        have s2 : Sm thS m0 m111 := s3.trans q111
        have ih1 := ih (j + 1) m111 (by omega) s2
        rw [show 16 * a + (j + 1) = 16 * a + j + 1 by omega] at ih1
        rw [e2]
        by_cases hp : whP d h f K (16 * a + j)
        · rw [cN_t hp] at ih1
          by_cases h0 : cN (whP d h f K) (16 * a + j) = 0
          · rw [fs_t hp h0, x1, x2] at ih1
            first | (rw [e3]; exact ih1) | exact absurd h122 (fun q => (fs_neg (by omega)).mp q h0) | exact absurd hp h114
          · rw [fs_f (fun z => h0 z.2)] at ih1
            first | (rw [e3]; exact ih1) | exact absurd ((fs_neg (by omega)).mpr h0) h122 | exact absurd hp h114
        · rw [cN_f hp, fs_f (fun z => hp z.1)] at ih1
          first | exact ih1 | exact absurd h114 hp
      · refine j_bipush 127 (v := nI 100) dX11_whence_125 rfl rfl ?_
        refine j_iload6 129 dX11_whence_127 rfl ?_
        refine j_imulN 130 dX11_whence_129 rfl ?_
        refine j_iload7 132 dX11_whence_130 rfl ?_
        refine j_iaddN 133 dX11_whence_132 rfl ?_
        refine j_goto 138 dX11_whence_133 rfl ?_
        refine j_istore5 140 dX11_whence_138 rfl rfl rfl ?_
        refine j_iinc7 143 (1) dX11_whence_140 rfl rfl rfl rfl ?_
        refine j_goto 65 dX11_whence_143 rfl ?_
        have s2 : Sm thS m0 m111 := s3.trans q111
        have ih1 := ih (j + 1) m111 (by omega) s2
        rw [show 16 * a + (j + 1) = 16 * a + j + 1 by omega] at ih1
        rw [e2]
        by_cases hp : whP d h f K (16 * a + j)
        · rw [cN_t hp] at ih1
          by_cases h0 : cN (whP d h f K) (16 * a + j) = 0
          · rw [fs_t hp h0, x1, x2] at ih1
            first | (rw [e3]; exact ih1) | exact absurd h122 (fun q => (fs_neg (by omega)).mp q h0) | exact absurd hp h114
          · rw [fs_f (fun z => h0 z.2)] at ih1
            first | (rw [e3]; exact ih1) | exact absurd ((fs_neg (by omega)).mpr h0) h122 | exact absurd hp h114
        · rw [cN_f hp, fs_f (fun z => hp z.1)] at ih1
          first | exact ih1 | exact absurd h114 hp
set_option maxRecDepth 100000 in
theorem lp_whence_0 {Q : Option Value → Mem → Prop} (d : Nat → Int32) (w : WF d) (h : Nat) (hh : h < 8) (v : Int32) (f : Nat → Int32) (K : Nat) (h40 : K ≤ 40) (m0 : Mem) (hT0 : TR 9 m0 d) (hP : PR 36 m0 d) (hK : m0 66 0 = nI K) (hf0 : m0 61 = f) (kk : ∀ m', Sm thS m0 m' → ∀ o, J l g 6 mX11_whence 152 [some (rf g 0), some (.int (nI 0)), some (.int (nI h)), some (.int v), some (.int (nI (cN (whP d h f K) 112))), some (.int (fsI (whP d h f K) (-1) 112)), some (.int (nI 7)), o] [] m' Q) : ∀ (k a : Nat) (m : Mem) (o : Option Value), a + k = 7 → Sm thS m0 m → J l g 6 mX11_whence 55 [some (rf g 0), some (.int (nI 0)), some (.int (nI h)), some (.int v), some (.int (nI (cN (whP d h f K) (16 * a)))), some (.int (fsI (whP d h f K) (-1) (16 * a))), some (.int (nI a)), o] [] m Q := by
  intro k
  induction k with
  | zero =>
    intro a m o e hs
    have e : a = 7 := by omega
    subst e
    refine j_iload6 57 dX11_whence_55 rfl ?_
    refine j_bipush 59 (v := 7) dX11_whence_57 rfl rfl ?_
    refine j_cmp_ge 152 62 dX11_whence_59 rfl rfl (fun h59 => ?_) (fun h59 => absurd (by decide) h59)
    exact kk m hs _
  | succ k ih =>
    intro a m o e hs
    refine j_iload6 57 dX11_whence_55 rfl ?_
    refine j_bipush 59 (v := 7) dX11_whence_57 rfl rfl ?_
    refine j_cmp_ge 152 62 dX11_whence_59 rfl rfl (fun h59 => absurd h59 (nI_ge (a := a) (b := 7) (by omega) (by decide))) (fun h59 => ?_)
    refine j_iconst 63 (v := 0) dX11_whence_62 rfl rfl ?_
    refine j_istore7 65 dX11_whence_63 rfl rfl rfl ?_
    exact li_whence_0 d w h hh v f K h40 m0 hT0 hP hK hf0 a (by omega) (fun m' s o => ih (a + 1) m' o (by omega) s) 16 0 m rfl hs
set_option maxRecDepth 100000 in
theorem o_whence_0 {Q : Option Value → Mem → Prop} (m : Mem) (d : Nat → Int32) (w : WF d) (hT : TR 9 m d) (hP : PR 36 m d) (h : Nat) (hh : h < 8) (v : Int32) (f : Nat → Int32) (K : Nat) (h40 : K ≤ 40) (hK : m 66 0 = nI K) (hf0 : m 61 = f) (hb : ¬ m 65 0 = 0) (h1 : 0 ≤ nI h ∧ nI h < m 9 9 ∧ nI h < 8) (h3 : 0 ≤ v ∧ v ≤ 1) (kk0 : v = 0 → ∀ m', Sm thS m m' → Q (some (.int (nI (cN (whP d h f K) 112)))) m') (kk1 : ¬ v = 0 → cN (whP d h f K) 112 ≠ 0 → ∀ m', Sm thS m m' → Q (some (.int (fsI (whP d h f K) (-1) 112))) m') (kk2 : ¬ v = 0 → cN (whP d h f K) 112 = 0 → ∀ m', Sm thS m m' → Q (some (.int (-1000000002))) (errC 2 m')) : JM l g 6 mX11_whence [rf g 0, .int (nI 0), .int (nI h), .int v] m (Q) := by
  refine JM_of (ls := [some (rf g 0), some (.int (nI 0)), some (.int (nI h)), some (.int v), none, none, none, none]) pn_X11 rfl rfl ?_
  have tl : ∀ m', Sm thS m m' → ∀ o, J l g 6 mX11_whence 152 [some (rf g 0), some (.int (nI 0)), some (.int (nI h)), some (.int v), some (.int (nI (cN (whP d h f K) 112))), some (.int (fsI (whP d h f K) (-1) 112)), some (.int (nI 7)), o] [] m' Q := by
    intro m' s o
    refine j_iload3 153 dX11_whence_152 rfl ?_
    refine j_if_ne 159 156 dX11_whence_153 rfl rfl (fun h153 => ?_) (fun h153 => ?_)
    · refine j_iload5 161 dX11_whence_159 rfl ?_
      refine j_if_ge 173 164 dX11_whence_161 rfl rfl (fun h161 => ?_) (fun h161 => ?_)
      · refine j_iload5 175 dX11_whence_173 rfl ?_
        refine j_iret dX11_whence_175 rfl ?_
        first | exact kk1 h153 ((fs_neg (by decide)).mp h161) m' s | exact kk2 h153 (Classical.not_not.mp (fun q => h161 ((fs_neg (by decide)).mpr q))) m' s
      · refine j_aload0 165 dX11_whence_164 rfl ?_
        refine j_ldc 167 dX11_whence_165 rfl kc_X11_223 ?_
        refine j_vi1f 170 dX11_whence_167 rfl rfl cl_X11_82 rfl rfl (c_err2 m') ?_
        refine j_goto 175 dX11_whence_170 rfl ?_
        refine j_iret dX11_whence_175 rfl ?_
        first | exact kk1 h153 ((fs_neg (by decide)).mp h161) m' s | exact kk2 h153 (Classical.not_not.mp (fun q => h161 ((fs_neg (by decide)).mpr q))) m' s
    · refine j_iload4 158 dX11_whence_156 rfl ?_
      refine j_iret dX11_whence_158 rfl ?_
      exact kk0 h153 m' s
  refine j_iload1 1 dX11_whence_0 rfl ?_
  refine j_st1f 4 dX11_whence_1 rfl rfl cl_X11_230 rfl (c_isSheet m _) ?_
  refine j_if_eq_bz 24 7 dX11_whence_4 rfl rfl (fun h4 => absurd (by decide) h4) (fun h4 => ?_)
  refine j_aload0 8 dX11_whence_7 rfl ?_
  refine j_iload2 9 dX11_whence_8 rfl ?_
  refine j_vi1f 12 dX11_whence_9 rfl rfl cl_X11_124 rfl rfl (c_isHeir m _) ?_
  refine j_if_eq_bz 24 15 dX11_whence_12 rfl rfl (fun h12 => absurd h1 h12) (fun h12 => ?_)
  refine j_iload3 16 dX11_whence_15 rfl ?_
  refine j_iconst 17 (v := 0) dX11_whence_16 rfl rfl ?_
  refine j_iconst 18 (v := 1) dX11_whence_17 rfl rfl ?_
  refine j_st3f 21 dX11_whence_18 rfl rfl cl_X11_86 rfl (c_within m _ 0 1) ?_
  refine j_if_ne_bz 31 24 dX11_whence_21 rfl rfl (fun h21 => ?_) (fun h21 => absurd h3 h21)
  refine j_aload0 32 dX11_whence_31 rfl ?_
  refine j_iload1 33 dX11_whence_32 rfl ?_
  refine j_vi1f 36 dX11_whence_33 rfl rfl cl_X11_233 rfl rfl (c_isMissing m 0 (by decide)) ?_
  refine j_if_eq_bz 46 39 dX11_whence_36 rfl rfl (fun h36 => ?_) (fun h36 => absurd h36 hb)
  refine j_iconst 47 (v := 0) dX11_whence_46 rfl rfl ?_
  refine j_istore4 49 dX11_whence_47 rfl rfl rfl ?_
  refine j_iconst 50 (v := -1) dX11_whence_49 rfl rfl ?_
  refine j_istore5 52 dX11_whence_50 rfl rfl rfl ?_
  refine j_iconst 53 (v := 0) dX11_whence_52 rfl rfl ?_
  refine j_istore6 55 dX11_whence_53 rfl rfl rfl ?_
  exact lp_whence_0 d w h hh v f K h40 m hT hP hK hf0 tl 7 0 m none rfl Sm.rf
set_option maxRecDepth 100000 in
theorem lp_lies_1 {Q : Option Value → Mem → Prop} (e : Nat → Int32) (w : WF e) (h : Nat) (hh : h < 8) (f : Nat → Int32) (K : Nat) (h40 : K ≤ 40) (m0 : Mem) (hK : m0 66 1 = nI K) (hf0 : m0 62 = f) (k1 : tolP e h f K → ∀ m', Sm thS m0 m' → Q (some (.int 1)) m') (k0 : ¬ tolP e h f K → ∀ m', Sm thS m0 m' → Q (some (.int 0)) m') : ∀ (k i : Nat) (m : Mem), i + k = K → (∀ j, j < i → hf (itD (j + 1) e) h 4 = f j) → TR 18 m (itD i e) → LR m 39 (itD i e) 0 → LR m 43 (itD i e) 1 → Sm thS m0 m → J l g 5 mX11_liesAsTold 2 [some (rf g 0), some (.int (nI h)), some (.int (nI 1)), some (.int (nI i))] [] m Q := by
  intro k
  induction k with
  | zero =>
    intro i m ei ha hT hl0 hl1 hs
    have ei : i = K := by omega
    subst ei
    have e66 : m 66 1 = nI i := (congrFun (hs 66 (by decide)) _).trans hK
    refine j_iload3 3 dX11_liesAsTold_2 rfl ?_
    refine j_aload0 4 dX11_liesAsTold_3 rfl ?_
    refine j_getR 7 dX11_liesAsTold_4 rfl fl_X11_71 rfl rfl ?_
    refine j_iload2 8 dX11_liesAsTold_7 rfl ?_
    refine j_iald 9 1 rfl (by decide) dX11_liesAsTold_8 rfl rfl ?_
    refine j_top e66 ?_
    refine j_cmp_ge 57 12 dX11_liesAsTold_9 rfl rfl (fun h9 => ?_) (fun h9 => absurd (Int32.le_refl _) h9)
    refine j_iconst 58 (v := 1) dX11_liesAsTold_57 rfl rfl ?_
    refine j_zret (by first | exact bz_01 | exact Or.inl rfl | exact Or.inr rfl | assumption) dX11_liesAsTold_58 rfl ?_
    exact k1 ha m hs
  | succ k ih =>
    intro i m ei ha hT hl0 hl1 hs
    have e2 : nI i + 1 = nI (i + 1) := nI_1 i
    have e66 : m 66 1 = nI K := (congrFun (hs 66 (by decide)) _).trans hK
    have wi := itD_wf i w
    refine j_iload3 3 dX11_liesAsTold_2 rfl ?_
    refine j_aload0 4 dX11_liesAsTold_3 rfl ?_
    refine j_getR 7 dX11_liesAsTold_4 rfl fl_X11_71 rfl rfl ?_
    refine j_iload2 8 dX11_liesAsTold_7 rfl ?_
    refine j_iald 9 1 rfl (by decide) dX11_liesAsTold_8 rfl rfl ?_
    refine j_top e66 ?_
    refine j_cmp_ge 57 12 dX11_liesAsTold_9 rfl rfl (fun h9 => absurd h9 (nI_ge (a := i) (b := K) (by omega) (by omega))) (fun h9 => ?_)
    refine j_iload3 13 dX11_liesAsTold_12 rfl ?_
    refine j_bipush 15 (v := 40) dX11_liesAsTold_13 rfl rfl ?_
    refine j_cmp_ge 57 18 dX11_liesAsTold_15 rfl rfl (fun h15 => absurd h15 (nI_ge (a := i) (b := 40) (by omega) (by decide))) (fun h15 => ?_)
    refine j_aload0 19 dX11_liesAsTold_18 rfl ?_
    refine j_getR 22 dX11_liesAsTold_19 rfl fl_X11_39 rfl rfl ?_
    refine j_aload0 23 dX11_liesAsTold_22 rfl ?_
    refine j_getR 26 dX11_liesAsTold_23 rfl fl_X11_48 rfl rfl ?_
    refine j_vi1w 29 dX11_liesAsTold_26 rfl rfl cl_X11_213 rfl rfl (c_goDay_18 m (itD i e) wi hT hl0 hl1) (fun m26 q26 => ?_)
    have t1 : TR 18 m26 (itD (i + 1) e) := by rw [itD_s]; exact q26.1
    have s2 : Sm thS m0 m26 := hs.trans (q26.2.mono (by decide))
    have v1 : m26 25 h = hf (itD (i + 1) e) h 4 := t1.2.2.2.2.2.2.2 h hh 4 (by decide)
    have v2 : m26 62 i = f i := by rw [s2 62 (by decide), hf0]
    refine j_aload0 30 dX11_liesAsTold_29 rfl ?_
    refine j_getR 33 dX11_liesAsTold_30 rfl fl_X11_39 rfl rfl ?_
    refine j_getR 36 dX11_liesAsTold_33 rfl fl_X11_139 rfl rfl ?_
    refine j_iload1 37 dX11_liesAsTold_36 rfl ?_
    refine j_iald 38 _ rfl hh dX11_liesAsTold_37 rfl rfl ?_
    refine j_aload0 39 dX11_liesAsTold_38 rfl ?_
    refine j_getR 42 dX11_liesAsTold_39 rfl fl_X11_64 rfl rfl ?_
    refine j_iload2 43 dX11_liesAsTold_42 rfl ?_
    refine j_aald 44 1 rfl (by decide) dX11_liesAsTold_43 rfl (by decide) ?_
    refine j_ref (b := 62) (by decide) ?_
    refine j_iload3 45 dX11_liesAsTold_44 rfl ?_
    refine j_iald 46 _ rfl (show i < 40 by omega) dX11_liesAsTold_45 rfl rfl ?_
    refine j_cmp_eq 51 49 dX11_liesAsTold_46 rfl rfl (fun h46 => ?_) (fun h46 => ?_)
    · refine j_iinc3 54 (1) dX11_liesAsTold_51 rfl rfl rfl rfl ?_
      refine j_goto 2 dX11_liesAsTold_54 rfl ?_
      rw [e2]
      refine ih (i + 1) m26 (by omega) (fun j hj => ?_) t1 ?_ ?_ s2
      · by_cases q : j = i
        · rw [q]; exact v1.symm.trans (h46.trans v2)
        · exact ha j (by omega)
      · rw [itD_s]; exact LR_congr (by decide) hl0 (q26.2 39 (by decide)) (q26.2 40 (by decide)) (fun k hk => dayF_k wi (by omega) (by omega) (by omega))
      · rw [itD_s]; exact LR_congr (by decide) hl1 (q26.2 43 (by decide)) (q26.2 44 (by decide)) (fun k hk => dayF_k wi (by omega) (by omega) (by omega))
    · refine j_iconst 50 (v := 0) dX11_liesAsTold_49 rfl rfl ?_
      refine j_zret (by first | exact bz_01 | exact Or.inl rfl | exact Or.inr rfl | assumption) dX11_liesAsTold_50 rfl ?_
      exact k0 (fun q => h46 (v1.trans ((q i (by omega)).trans v2.symm))) m26 s2
set_option maxRecDepth 100000 in
theorem c_lies_1 (m : Mem) (e : Nat → Int32) (w : WF e) (h : Nat) (hh : h < 8) (f : Nat → Int32) (K : Nat) (h40 : K ≤ 40) (hK : m 66 1 = nI K) (hf0 : m 62 = f) (hT : TR 18 m e) (hl0 : LR m 39 e 0) (hl1 : LR m 43 e 1) : JM l g 5 mX11_liesAsTold [rf g 0, .int (nI h), .int (nI 1)] m (RS (some (.int (bz (tolP e h f K)))) (Sm thS m)) := by
  refine JM_of (ls := [some (rf g 0), some (.int (nI h)), some (.int (nI 1)), none]) pn_X11 rfl rfl ?_
  refine j_iconst 1 (v := 0) dX11_liesAsTold_0 rfl rfl ?_
  refine j_istore3 2 dX11_liesAsTold_1 rfl rfl rfl ?_
  exact lp_lies_1 e w h hh f K h40 m hK hf0 (fun q m' s => ⟨by rw [bz_t q], s⟩) (fun q m' s => ⟨by rw [bz_f q], s⟩) K 0 m (Nat.zero_add _) (fun j hj => absurd hj (Nat.not_lt_zero j)) hT hl0 hl1 Sm.rf
set_option maxRecDepth 100000 in
theorem li_whence_1 {Q : Option Value → Mem → Prop} (d : Nat → Int32) (w : WF d) (h : Nat) (hh : h < 8) (v : Int32) (f : Nat → Int32) (K : Nat) (h40 : K ≤ 40) (m0 : Mem) (hT0 : TR 9 m0 d) (hP : PR 36 m0 d) (hK : m0 66 1 = nI K) (hf0 : m0 62 = f) (a : Nat) (ha : a < 7) (kk : ∀ m', Sm thS m0 m' → ∀ o, J l g 6 mX11_whence 55 [some (rf g 0), some (.int (nI 1)), some (.int (nI h)), some (.int v), some (.int (nI (cN (whP d h f K) (16 * (a + 1))))), some (.int (fsI (whP d h f K) (-1) (16 * (a + 1)))), some (.int (nI (a + 1))), o] [] m' Q) : ∀ (k j : Nat) (m : Mem), j + k = 16 → Sm thS m0 m → J l g 6 mX11_whence 65 [some (rf g 0), some (.int (nI 1)), some (.int (nI h)), some (.int v), some (.int (nI (cN (whP d h f K) (16 * a + j)))), some (.int (fsI (whP d h f K) (-1) (16 * a + j))), some (.int (nI a)), some (.int (nI j))] [] m Q := by
  intro k
  induction k with
  | zero =>
    intro j m e hs
    have e : j = 16 := by omega
    subst e
    have e1 : nI a + 1 = nI (a + 1) := nI_1 a
    have e16 : 16 * a + 16 = 16 * (a + 1) := by omega
    refine j_iload7 67 dX11_whence_65 rfl ?_
    refine j_bipush 69 (v := 16) dX11_whence_67 rfl rfl ?_
    refine j_cmp_ge 146 72 dX11_whence_69 rfl rfl (fun h69 => ?_) (fun h69 => absurd (by decide) h69)
    refine j_iinc6 149 (1) dX11_whence_146 rfl rfl rfl rfl ?_
    refine j_goto 55 dX11_whence_149 rfl ?_
    rw [e1, e16]
    exact kk m hs _
  | succ k ih =>
    intro j m e hs
    have e2 : nI j + 1 = nI (j + 1) := nI_1 j
    have e3 : nI (cN (whP d h f K) (16 * a + j)) + 1 = nI (cN (whP d h f K) (16 * a + j) + 1) := nI_1 _
    have hk : 16 * a + j < 112 := by omega
    have x1 : (16 * a + j) / 16 = a := by omega
    have x2 : (16 * a + j) % 16 = j := by omega
    have w1 := WF_wh w (h := h) (k := 16 * a + j) hh hk
    have oe : ∀ k, 88 ≤ k → whD d h (16 * a + j) k = d k := fun k hk => whD_o (by omega) (by omega) (by omega)
    refine j_iload7 67 dX11_whence_65 rfl ?_
    refine j_bipush 69 (v := 16) dX11_whence_67 rfl rfl ?_
    refine j_cmp_ge 146 72 dX11_whence_69 rfl rfl (fun h69 => absurd h69 (nI_ge (a := j) (b := 16) (by omega) (by decide))) (fun h69 => ?_)
    refine j_aload0 73 dX11_whence_72 rfl ?_
    refine j_vi0w 76 dX11_whence_73 rfl rfl cl_X11_217 rfl rfl (c_think m) (fun m73 q73 => ?_)
    have s1 : Sm thS m0 m73 := hs.trans (q73.2.mono (by decide))
    have t1 := q73.1 d (thT hs hT0)
    obtain ⟨l0, l1⟩ := LR2 hP (s1 39 (by decide)) (s1 40 (by decide)) (s1 43 (by decide)) (s1 44 (by decide))
    have t2 : TR 18 (up2 (up2 (up2 m73 21 h (nI a)) 24 h 0) 25 h (nI j)) (whD d h (16 * a + j)) := by
      have t := TR_hf (r := 4) (v := nI j) (TR_hf (r := 3) (v := 0) (TR_hf (r := 0) (v := nI a) t1 hh (by decide)) hh (by decide)) hh (by decide)
      unfold whD
      rw [x1, x2]
      exact t
    refine j_aload0 77 dX11_whence_76 rfl ?_
    refine j_getR 80 dX11_whence_77 rfl fl_X11_39 rfl rfl ?_
    refine j_getR 83 dX11_whence_80 rfl fl_X11_127 rfl rfl ?_
    refine j_iload2 84 dX11_whence_83 rfl ?_
    refine j_iload6 86 dX11_whence_84 rfl ?_
    refine j_iast 87 _ rfl hh dX11_whence_86 rfl rfl ?_
    refine j_aload0 88 dX11_whence_87 rfl ?_
    refine j_getR 91 dX11_whence_88 rfl fl_X11_39 rfl rfl ?_
    refine j_getR 94 dX11_whence_91 rfl fl_X11_136 rfl rfl ?_
    refine j_iload2 95 dX11_whence_94 rfl ?_
    refine j_iconst 96 (v := 0) dX11_whence_95 rfl rfl ?_
    refine j_iast 97 _ rfl hh dX11_whence_96 rfl rfl ?_
    refine j_aload0 98 dX11_whence_97 rfl ?_
    refine j_getR 101 dX11_whence_98 rfl fl_X11_39 rfl rfl ?_
    refine j_getR 104 dX11_whence_101 rfl fl_X11_139 rfl rfl ?_
    refine j_iload2 105 dX11_whence_104 rfl ?_
    refine j_iload7 107 dX11_whence_105 rfl ?_
    refine j_iast 108 _ rfl hh dX11_whence_107 rfl rfl ?_
    have s3 : Sm thS m0 (up2 (up2 (up2 m73 21 h (nI a)) 24 h 0) 25 h (nI j)) := ((s1.up (by decide)).up (by decide)).up (by decide)
    refine j_aload0 109 dX11_whence_108 rfl ?_
    refine j_iload2 110 dX11_whence_109 rfl ?_
    refine j_iload1 111 dX11_whence_110 rfl ?_
    refine j_vi2s 114 dX11_whence_111 rfl rfl cl_X11_236 rfl rfl (c_lies_1 (up2 (up2 (up2 m73 21 h (nI a)) 24 h 0) 25 h (nI j)) (whD d h (16 * a + j)) w1 h hh f K h40 ((congrFun (s3 66 (by decide)) _).trans hK) ((s3 62 (by decide)).trans hf0) t2 (LR_congr (by decide) l0 ((up2_r (by decide)).trans ((up2_r (by decide)).trans (up2_r (by decide)))) ((up2_r (by decide)).trans ((up2_r (by decide)).trans (up2_r (by decide)))) oe) (LR_congr (by decide) l1 ((up2_r (by decide)).trans ((up2_r (by decide)).trans (up2_r (by decide)))) ((up2_r (by decide)).trans ((up2_r (by decide)).trans (up2_r (by decide)))) oe)) (fun m111 q111 => ?_)
    refine j_if_eq_bz 140 117 dX11_whence_114 rfl rfl (fun h114 => ?_) (fun h114 => ?_)
    · refine j_iinc7 143 (1) dX11_whence_140 rfl rfl rfl rfl ?_
      refine j_goto 65 dX11_whence_143 rfl ?_
      have s2 : Sm thS m0 m111 := s3.trans q111
      have ih1 := ih (j + 1) m111 (by omega) s2
      rw [show 16 * a + (j + 1) = 16 * a + j + 1 by omega] at ih1
      rw [e2]
      by_cases hp : whP d h f K (16 * a + j)
      · rw [cN_t hp] at ih1
        by_cases h0 : cN (whP d h f K) (16 * a + j) = 0
        · rw [fs_t hp h0, x1, x2] at ih1
          first | (rw [e3]; exact ih1) | exact absurd h122 (fun q => (fs_neg (by omega)).mp q h0) | exact absurd hp h114
        · rw [fs_f (fun z => h0 z.2)] at ih1
          first | (rw [e3]; exact ih1) | exact absurd ((fs_neg (by omega)).mpr h0) h122 | exact absurd hp h114
      · rw [cN_f hp, fs_f (fun z => hp z.1)] at ih1
        first | exact ih1 | exact absurd h114 hp
    · refine j_iinc4 120 (1) dX11_whence_117 rfl rfl rfl rfl ?_
      refine j_iload5 122 dX11_whence_120 rfl ?_
      refine j_if_ge 136 125 dX11_whence_122 rfl rfl (fun h122 => ?_) (fun h122 => ?_)
      · refine j_iload5 138 dX11_whence_136 rfl ?_
        refine j_istore5 140 dX11_whence_138 rfl rfl rfl ?_
        refine j_iinc7 143 (1) dX11_whence_140 rfl rfl rfl rfl ?_
        refine j_goto 65 dX11_whence_143 rfl ?_
        have s2 : Sm thS m0 m111 := s3.trans q111
        have ih1 := ih (j + 1) m111 (by omega) s2
        rw [show 16 * a + (j + 1) = 16 * a + j + 1 by omega] at ih1
        rw [e2]
        by_cases hp : whP d h f K (16 * a + j)
        · rw [cN_t hp] at ih1
          by_cases h0 : cN (whP d h f K) (16 * a + j) = 0
          · rw [fs_t hp h0, x1, x2] at ih1
            first | (rw [e3]; exact ih1) | exact absurd h122 (fun q => (fs_neg (by omega)).mp q h0) | exact absurd hp h114
          · rw [fs_f (fun z => h0 z.2)] at ih1
            first | (rw [e3]; exact ih1) | exact absurd ((fs_neg (by omega)).mpr h0) h122 | exact absurd hp h114
        · rw [cN_f hp, fs_f (fun z => hp z.1)] at ih1
          first | exact ih1 | exact absurd h114 hp
      · refine j_bipush 127 (v := nI 100) dX11_whence_125 rfl rfl ?_
        refine j_iload6 129 dX11_whence_127 rfl ?_
        refine j_imulN 130 dX11_whence_129 rfl ?_
        refine j_iload7 132 dX11_whence_130 rfl ?_
        refine j_iaddN 133 dX11_whence_132 rfl ?_
        refine j_goto 138 dX11_whence_133 rfl ?_
        refine j_istore5 140 dX11_whence_138 rfl rfl rfl ?_
        refine j_iinc7 143 (1) dX11_whence_140 rfl rfl rfl rfl ?_
        refine j_goto 65 dX11_whence_143 rfl ?_
        have s2 : Sm thS m0 m111 := s3.trans q111
        have ih1 := ih (j + 1) m111 (by omega) s2
        rw [show 16 * a + (j + 1) = 16 * a + j + 1 by omega] at ih1
        rw [e2]
        by_cases hp : whP d h f K (16 * a + j)
        · rw [cN_t hp] at ih1
          by_cases h0 : cN (whP d h f K) (16 * a + j) = 0
          · rw [fs_t hp h0, x1, x2] at ih1
            first | (rw [e3]; exact ih1) | exact absurd h122 (fun q => (fs_neg (by omega)).mp q h0) | exact absurd hp h114
          · rw [fs_f (fun z => h0 z.2)] at ih1
            first | (rw [e3]; exact ih1) | exact absurd ((fs_neg (by omega)).mpr h0) h122 | exact absurd hp h114
        · rw [cN_f hp, fs_f (fun z => hp z.1)] at ih1
          first | exact ih1 | exact absurd h114 hp
set_option maxRecDepth 100000 in
theorem lp_whence_1 {Q : Option Value → Mem → Prop} (d : Nat → Int32) (w : WF d) (h : Nat) (hh : h < 8) (v : Int32) (f : Nat → Int32) (K : Nat) (h40 : K ≤ 40) (m0 : Mem) (hT0 : TR 9 m0 d) (hP : PR 36 m0 d) (hK : m0 66 1 = nI K) (hf0 : m0 62 = f) (kk : ∀ m', Sm thS m0 m' → ∀ o, J l g 6 mX11_whence 152 [some (rf g 0), some (.int (nI 1)), some (.int (nI h)), some (.int v), some (.int (nI (cN (whP d h f K) 112))), some (.int (fsI (whP d h f K) (-1) 112)), some (.int (nI 7)), o] [] m' Q) : ∀ (k a : Nat) (m : Mem) (o : Option Value), a + k = 7 → Sm thS m0 m → J l g 6 mX11_whence 55 [some (rf g 0), some (.int (nI 1)), some (.int (nI h)), some (.int v), some (.int (nI (cN (whP d h f K) (16 * a)))), some (.int (fsI (whP d h f K) (-1) (16 * a))), some (.int (nI a)), o] [] m Q := by
  intro k
  induction k with
  | zero =>
    intro a m o e hs
    have e : a = 7 := by omega
    subst e
    refine j_iload6 57 dX11_whence_55 rfl ?_
    refine j_bipush 59 (v := 7) dX11_whence_57 rfl rfl ?_
    refine j_cmp_ge 152 62 dX11_whence_59 rfl rfl (fun h59 => ?_) (fun h59 => absurd (by decide) h59)
    exact kk m hs _
  | succ k ih =>
    intro a m o e hs
    refine j_iload6 57 dX11_whence_55 rfl ?_
    refine j_bipush 59 (v := 7) dX11_whence_57 rfl rfl ?_
    refine j_cmp_ge 152 62 dX11_whence_59 rfl rfl (fun h59 => absurd h59 (nI_ge (a := a) (b := 7) (by omega) (by decide))) (fun h59 => ?_)
    refine j_iconst 63 (v := 0) dX11_whence_62 rfl rfl ?_
    refine j_istore7 65 dX11_whence_63 rfl rfl rfl ?_
    exact li_whence_1 d w h hh v f K h40 m0 hT0 hP hK hf0 a (by omega) (fun m' s o => ih (a + 1) m' o (by omega) s) 16 0 m rfl hs
set_option maxRecDepth 100000 in
theorem o_whence_1 {Q : Option Value → Mem → Prop} (m : Mem) (d : Nat → Int32) (w : WF d) (hT : TR 9 m d) (hP : PR 36 m d) (h : Nat) (hh : h < 8) (v : Int32) (f : Nat → Int32) (K : Nat) (h40 : K ≤ 40) (hK : m 66 1 = nI K) (hf0 : m 62 = f) (hb : ¬ m 65 1 = 0) (h1 : 0 ≤ nI h ∧ nI h < m 9 9 ∧ nI h < 8) (h3 : 0 ≤ v ∧ v ≤ 1) (kk0 : v = 0 → ∀ m', Sm thS m m' → Q (some (.int (nI (cN (whP d h f K) 112)))) m') (kk1 : ¬ v = 0 → cN (whP d h f K) 112 ≠ 0 → ∀ m', Sm thS m m' → Q (some (.int (fsI (whP d h f K) (-1) 112))) m') (kk2 : ¬ v = 0 → cN (whP d h f K) 112 = 0 → ∀ m', Sm thS m m' → Q (some (.int (-1000000002))) (errC 2 m')) : JM l g 6 mX11_whence [rf g 0, .int (nI 1), .int (nI h), .int v] m (Q) := by
  refine JM_of (ls := [some (rf g 0), some (.int (nI 1)), some (.int (nI h)), some (.int v), none, none, none, none]) pn_X11 rfl rfl ?_
  have tl : ∀ m', Sm thS m m' → ∀ o, J l g 6 mX11_whence 152 [some (rf g 0), some (.int (nI 1)), some (.int (nI h)), some (.int v), some (.int (nI (cN (whP d h f K) 112))), some (.int (fsI (whP d h f K) (-1) 112)), some (.int (nI 7)), o] [] m' Q := by
    intro m' s o
    refine j_iload3 153 dX11_whence_152 rfl ?_
    refine j_if_ne 159 156 dX11_whence_153 rfl rfl (fun h153 => ?_) (fun h153 => ?_)
    · refine j_iload5 161 dX11_whence_159 rfl ?_
      refine j_if_ge 173 164 dX11_whence_161 rfl rfl (fun h161 => ?_) (fun h161 => ?_)
      · refine j_iload5 175 dX11_whence_173 rfl ?_
        refine j_iret dX11_whence_175 rfl ?_
        first | exact kk1 h153 ((fs_neg (by decide)).mp h161) m' s | exact kk2 h153 (Classical.not_not.mp (fun q => h161 ((fs_neg (by decide)).mpr q))) m' s
      · refine j_aload0 165 dX11_whence_164 rfl ?_
        refine j_ldc 167 dX11_whence_165 rfl kc_X11_223 ?_
        refine j_vi1f 170 dX11_whence_167 rfl rfl cl_X11_82 rfl rfl (c_err2 m') ?_
        refine j_goto 175 dX11_whence_170 rfl ?_
        refine j_iret dX11_whence_175 rfl ?_
        first | exact kk1 h153 ((fs_neg (by decide)).mp h161) m' s | exact kk2 h153 (Classical.not_not.mp (fun q => h161 ((fs_neg (by decide)).mpr q))) m' s
    · refine j_iload4 158 dX11_whence_156 rfl ?_
      refine j_iret dX11_whence_158 rfl ?_
      exact kk0 h153 m' s
  refine j_iload1 1 dX11_whence_0 rfl ?_
  refine j_st1f 4 dX11_whence_1 rfl rfl cl_X11_230 rfl (c_isSheet m _) ?_
  refine j_if_eq_bz 24 7 dX11_whence_4 rfl rfl (fun h4 => absurd (by decide) h4) (fun h4 => ?_)
  refine j_aload0 8 dX11_whence_7 rfl ?_
  refine j_iload2 9 dX11_whence_8 rfl ?_
  refine j_vi1f 12 dX11_whence_9 rfl rfl cl_X11_124 rfl rfl (c_isHeir m _) ?_
  refine j_if_eq_bz 24 15 dX11_whence_12 rfl rfl (fun h12 => absurd h1 h12) (fun h12 => ?_)
  refine j_iload3 16 dX11_whence_15 rfl ?_
  refine j_iconst 17 (v := 0) dX11_whence_16 rfl rfl ?_
  refine j_iconst 18 (v := 1) dX11_whence_17 rfl rfl ?_
  refine j_st3f 21 dX11_whence_18 rfl rfl cl_X11_86 rfl (c_within m _ 0 1) ?_
  refine j_if_ne_bz 31 24 dX11_whence_21 rfl rfl (fun h21 => ?_) (fun h21 => absurd h3 h21)
  refine j_aload0 32 dX11_whence_31 rfl ?_
  refine j_iload1 33 dX11_whence_32 rfl ?_
  refine j_vi1f 36 dX11_whence_33 rfl rfl cl_X11_233 rfl rfl (c_isMissing m 1 (by decide)) ?_
  refine j_if_eq_bz 46 39 dX11_whence_36 rfl rfl (fun h36 => ?_) (fun h36 => absurd h36 hb)
  refine j_iconst 47 (v := 0) dX11_whence_46 rfl rfl ?_
  refine j_istore4 49 dX11_whence_47 rfl rfl rfl ?_
  refine j_iconst 50 (v := -1) dX11_whence_49 rfl rfl ?_
  refine j_istore5 52 dX11_whence_50 rfl rfl rfl ?_
  refine j_iconst 53 (v := 0) dX11_whence_52 rfl rfl ?_
  refine j_istore6 55 dX11_whence_53 rfl rfl rfl ?_
  exact lp_whence_1 d w h hh v f K h40 m hT hP hK hf0 tl 7 0 m none rfl Sm.rf
set_option maxRecDepth 100000 in
theorem lp_lies_2 {Q : Option Value → Mem → Prop} (e : Nat → Int32) (w : WF e) (h : Nat) (hh : h < 8) (f : Nat → Int32) (K : Nat) (h40 : K ≤ 40) (m0 : Mem) (hK : m0 66 2 = nI K) (hf0 : m0 63 = f) (k1 : tolP e h f K → ∀ m', Sm thS m0 m' → Q (some (.int 1)) m') (k0 : ¬ tolP e h f K → ∀ m', Sm thS m0 m' → Q (some (.int 0)) m') : ∀ (k i : Nat) (m : Mem), i + k = K → (∀ j, j < i → hf (itD (j + 1) e) h 4 = f j) → TR 18 m (itD i e) → LR m 39 (itD i e) 0 → LR m 43 (itD i e) 1 → Sm thS m0 m → J l g 5 mX11_liesAsTold 2 [some (rf g 0), some (.int (nI h)), some (.int (nI 2)), some (.int (nI i))] [] m Q := by
  intro k
  induction k with
  | zero =>
    intro i m ei ha hT hl0 hl1 hs
    have ei : i = K := by omega
    subst ei
    have e66 : m 66 2 = nI i := (congrFun (hs 66 (by decide)) _).trans hK
    refine j_iload3 3 dX11_liesAsTold_2 rfl ?_
    refine j_aload0 4 dX11_liesAsTold_3 rfl ?_
    refine j_getR 7 dX11_liesAsTold_4 rfl fl_X11_71 rfl rfl ?_
    refine j_iload2 8 dX11_liesAsTold_7 rfl ?_
    refine j_iald 9 2 rfl (by decide) dX11_liesAsTold_8 rfl rfl ?_
    refine j_top e66 ?_
    refine j_cmp_ge 57 12 dX11_liesAsTold_9 rfl rfl (fun h9 => ?_) (fun h9 => absurd (Int32.le_refl _) h9)
    refine j_iconst 58 (v := 1) dX11_liesAsTold_57 rfl rfl ?_
    refine j_zret (by first | exact bz_01 | exact Or.inl rfl | exact Or.inr rfl | assumption) dX11_liesAsTold_58 rfl ?_
    exact k1 ha m hs
  | succ k ih =>
    intro i m ei ha hT hl0 hl1 hs
    have e2 : nI i + 1 = nI (i + 1) := nI_1 i
    have e66 : m 66 2 = nI K := (congrFun (hs 66 (by decide)) _).trans hK
    have wi := itD_wf i w
    refine j_iload3 3 dX11_liesAsTold_2 rfl ?_
    refine j_aload0 4 dX11_liesAsTold_3 rfl ?_
    refine j_getR 7 dX11_liesAsTold_4 rfl fl_X11_71 rfl rfl ?_
    refine j_iload2 8 dX11_liesAsTold_7 rfl ?_
    refine j_iald 9 2 rfl (by decide) dX11_liesAsTold_8 rfl rfl ?_
    refine j_top e66 ?_
    refine j_cmp_ge 57 12 dX11_liesAsTold_9 rfl rfl (fun h9 => absurd h9 (nI_ge (a := i) (b := K) (by omega) (by omega))) (fun h9 => ?_)
    refine j_iload3 13 dX11_liesAsTold_12 rfl ?_
    refine j_bipush 15 (v := 40) dX11_liesAsTold_13 rfl rfl ?_
    refine j_cmp_ge 57 18 dX11_liesAsTold_15 rfl rfl (fun h15 => absurd h15 (nI_ge (a := i) (b := 40) (by omega) (by decide))) (fun h15 => ?_)
    refine j_aload0 19 dX11_liesAsTold_18 rfl ?_
    refine j_getR 22 dX11_liesAsTold_19 rfl fl_X11_39 rfl rfl ?_
    refine j_aload0 23 dX11_liesAsTold_22 rfl ?_
    refine j_getR 26 dX11_liesAsTold_23 rfl fl_X11_48 rfl rfl ?_
    refine j_vi1w 29 dX11_liesAsTold_26 rfl rfl cl_X11_213 rfl rfl (c_goDay_18 m (itD i e) wi hT hl0 hl1) (fun m26 q26 => ?_)
    have t1 : TR 18 m26 (itD (i + 1) e) := by rw [itD_s]; exact q26.1
    have s2 : Sm thS m0 m26 := hs.trans (q26.2.mono (by decide))
    have v1 : m26 25 h = hf (itD (i + 1) e) h 4 := t1.2.2.2.2.2.2.2 h hh 4 (by decide)
    have v2 : m26 63 i = f i := by rw [s2 63 (by decide), hf0]
    refine j_aload0 30 dX11_liesAsTold_29 rfl ?_
    refine j_getR 33 dX11_liesAsTold_30 rfl fl_X11_39 rfl rfl ?_
    refine j_getR 36 dX11_liesAsTold_33 rfl fl_X11_139 rfl rfl ?_
    refine j_iload1 37 dX11_liesAsTold_36 rfl ?_
    refine j_iald 38 _ rfl hh dX11_liesAsTold_37 rfl rfl ?_
    refine j_aload0 39 dX11_liesAsTold_38 rfl ?_
    refine j_getR 42 dX11_liesAsTold_39 rfl fl_X11_64 rfl rfl ?_
    refine j_iload2 43 dX11_liesAsTold_42 rfl ?_
    refine j_aald 44 2 rfl (by decide) dX11_liesAsTold_43 rfl (by decide) ?_
    refine j_ref (b := 63) (by decide) ?_
    refine j_iload3 45 dX11_liesAsTold_44 rfl ?_
    refine j_iald 46 _ rfl (show i < 40 by omega) dX11_liesAsTold_45 rfl rfl ?_
    refine j_cmp_eq 51 49 dX11_liesAsTold_46 rfl rfl (fun h46 => ?_) (fun h46 => ?_)
    · refine j_iinc3 54 (1) dX11_liesAsTold_51 rfl rfl rfl rfl ?_
      refine j_goto 2 dX11_liesAsTold_54 rfl ?_
      rw [e2]
      refine ih (i + 1) m26 (by omega) (fun j hj => ?_) t1 ?_ ?_ s2
      · by_cases q : j = i
        · rw [q]; exact v1.symm.trans (h46.trans v2)
        · exact ha j (by omega)
      · rw [itD_s]; exact LR_congr (by decide) hl0 (q26.2 39 (by decide)) (q26.2 40 (by decide)) (fun k hk => dayF_k wi (by omega) (by omega) (by omega))
      · rw [itD_s]; exact LR_congr (by decide) hl1 (q26.2 43 (by decide)) (q26.2 44 (by decide)) (fun k hk => dayF_k wi (by omega) (by omega) (by omega))
    · refine j_iconst 50 (v := 0) dX11_liesAsTold_49 rfl rfl ?_
      refine j_zret (by first | exact bz_01 | exact Or.inl rfl | exact Or.inr rfl | assumption) dX11_liesAsTold_50 rfl ?_
      exact k0 (fun q => h46 (v1.trans ((q i (by omega)).trans v2.symm))) m26 s2
set_option maxRecDepth 100000 in
theorem c_lies_2 (m : Mem) (e : Nat → Int32) (w : WF e) (h : Nat) (hh : h < 8) (f : Nat → Int32) (K : Nat) (h40 : K ≤ 40) (hK : m 66 2 = nI K) (hf0 : m 63 = f) (hT : TR 18 m e) (hl0 : LR m 39 e 0) (hl1 : LR m 43 e 1) : JM l g 5 mX11_liesAsTold [rf g 0, .int (nI h), .int (nI 2)] m (RS (some (.int (bz (tolP e h f K)))) (Sm thS m)) := by
  refine JM_of (ls := [some (rf g 0), some (.int (nI h)), some (.int (nI 2)), none]) pn_X11 rfl rfl ?_
  refine j_iconst 1 (v := 0) dX11_liesAsTold_0 rfl rfl ?_
  refine j_istore3 2 dX11_liesAsTold_1 rfl rfl rfl ?_
  exact lp_lies_2 e w h hh f K h40 m hK hf0 (fun q m' s => ⟨by rw [bz_t q], s⟩) (fun q m' s => ⟨by rw [bz_f q], s⟩) K 0 m (Nat.zero_add _) (fun j hj => absurd hj (Nat.not_lt_zero j)) hT hl0 hl1 Sm.rf
set_option maxRecDepth 100000 in
theorem li_whence_2 {Q : Option Value → Mem → Prop} (d : Nat → Int32) (w : WF d) (h : Nat) (hh : h < 8) (v : Int32) (f : Nat → Int32) (K : Nat) (h40 : K ≤ 40) (m0 : Mem) (hT0 : TR 9 m0 d) (hP : PR 36 m0 d) (hK : m0 66 2 = nI K) (hf0 : m0 63 = f) (a : Nat) (ha : a < 7) (kk : ∀ m', Sm thS m0 m' → ∀ o, J l g 6 mX11_whence 55 [some (rf g 0), some (.int (nI 2)), some (.int (nI h)), some (.int v), some (.int (nI (cN (whP d h f K) (16 * (a + 1))))), some (.int (fsI (whP d h f K) (-1) (16 * (a + 1)))), some (.int (nI (a + 1))), o] [] m' Q) : ∀ (k j : Nat) (m : Mem), j + k = 16 → Sm thS m0 m → J l g 6 mX11_whence 65 [some (rf g 0), some (.int (nI 2)), some (.int (nI h)), some (.int v), some (.int (nI (cN (whP d h f K) (16 * a + j)))), some (.int (fsI (whP d h f K) (-1) (16 * a + j))), some (.int (nI a)), some (.int (nI j))] [] m Q := by
  intro k
  induction k with
  | zero =>
    intro j m e hs
    have e : j = 16 := by omega
    subst e
    have e1 : nI a + 1 = nI (a + 1) := nI_1 a
    have e16 : 16 * a + 16 = 16 * (a + 1) := by omega
    refine j_iload7 67 dX11_whence_65 rfl ?_
    refine j_bipush 69 (v := 16) dX11_whence_67 rfl rfl ?_
    refine j_cmp_ge 146 72 dX11_whence_69 rfl rfl (fun h69 => ?_) (fun h69 => absurd (by decide) h69)
    refine j_iinc6 149 (1) dX11_whence_146 rfl rfl rfl rfl ?_
    refine j_goto 55 dX11_whence_149 rfl ?_
    rw [e1, e16]
    exact kk m hs _
  | succ k ih =>
    intro j m e hs
    have e2 : nI j + 1 = nI (j + 1) := nI_1 j
    have e3 : nI (cN (whP d h f K) (16 * a + j)) + 1 = nI (cN (whP d h f K) (16 * a + j) + 1) := nI_1 _
    have hk : 16 * a + j < 112 := by omega
    have x1 : (16 * a + j) / 16 = a := by omega
    have x2 : (16 * a + j) % 16 = j := by omega
    have w1 := WF_wh w (h := h) (k := 16 * a + j) hh hk
    have oe : ∀ k, 88 ≤ k → whD d h (16 * a + j) k = d k := fun k hk => whD_o (by omega) (by omega) (by omega)
    refine j_iload7 67 dX11_whence_65 rfl ?_
    refine j_bipush 69 (v := 16) dX11_whence_67 rfl rfl ?_
    refine j_cmp_ge 146 72 dX11_whence_69 rfl rfl (fun h69 => absurd h69 (nI_ge (a := j) (b := 16) (by omega) (by decide))) (fun h69 => ?_)
    refine j_aload0 73 dX11_whence_72 rfl ?_
    refine j_vi0w 76 dX11_whence_73 rfl rfl cl_X11_217 rfl rfl (c_think m) (fun m73 q73 => ?_)
    have s1 : Sm thS m0 m73 := hs.trans (q73.2.mono (by decide))
    have t1 := q73.1 d (thT hs hT0)
    obtain ⟨l0, l1⟩ := LR2 hP (s1 39 (by decide)) (s1 40 (by decide)) (s1 43 (by decide)) (s1 44 (by decide))
    have t2 : TR 18 (up2 (up2 (up2 m73 21 h (nI a)) 24 h 0) 25 h (nI j)) (whD d h (16 * a + j)) := by
      have t := TR_hf (r := 4) (v := nI j) (TR_hf (r := 3) (v := 0) (TR_hf (r := 0) (v := nI a) t1 hh (by decide)) hh (by decide)) hh (by decide)
      unfold whD
      rw [x1, x2]
      exact t
    refine j_aload0 77 dX11_whence_76 rfl ?_
    refine j_getR 80 dX11_whence_77 rfl fl_X11_39 rfl rfl ?_
    refine j_getR 83 dX11_whence_80 rfl fl_X11_127 rfl rfl ?_
    refine j_iload2 84 dX11_whence_83 rfl ?_
    refine j_iload6 86 dX11_whence_84 rfl ?_
    refine j_iast 87 _ rfl hh dX11_whence_86 rfl rfl ?_
    refine j_aload0 88 dX11_whence_87 rfl ?_
    refine j_getR 91 dX11_whence_88 rfl fl_X11_39 rfl rfl ?_
    refine j_getR 94 dX11_whence_91 rfl fl_X11_136 rfl rfl ?_
    refine j_iload2 95 dX11_whence_94 rfl ?_
    refine j_iconst 96 (v := 0) dX11_whence_95 rfl rfl ?_
    refine j_iast 97 _ rfl hh dX11_whence_96 rfl rfl ?_
    refine j_aload0 98 dX11_whence_97 rfl ?_
    refine j_getR 101 dX11_whence_98 rfl fl_X11_39 rfl rfl ?_
    refine j_getR 104 dX11_whence_101 rfl fl_X11_139 rfl rfl ?_
    refine j_iload2 105 dX11_whence_104 rfl ?_
    refine j_iload7 107 dX11_whence_105 rfl ?_
    refine j_iast 108 _ rfl hh dX11_whence_107 rfl rfl ?_
    have s3 : Sm thS m0 (up2 (up2 (up2 m73 21 h (nI a)) 24 h 0) 25 h (nI j)) := ((s1.up (by decide)).up (by decide)).up (by decide)
    refine j_aload0 109 dX11_whence_108 rfl ?_
    refine j_iload2 110 dX11_whence_109 rfl ?_
    refine j_iload1 111 dX11_whence_110 rfl ?_
    refine j_vi2s 114 dX11_whence_111 rfl rfl cl_X11_236 rfl rfl (c_lies_2 (up2 (up2 (up2 m73 21 h (nI a)) 24 h 0) 25 h (nI j)) (whD d h (16 * a + j)) w1 h hh f K h40 ((congrFun (s3 66 (by decide)) _).trans hK) ((s3 63 (by decide)).trans hf0) t2 (LR_congr (by decide) l0 ((up2_r (by decide)).trans ((up2_r (by decide)).trans (up2_r (by decide)))) ((up2_r (by decide)).trans ((up2_r (by decide)).trans (up2_r (by decide)))) oe) (LR_congr (by decide) l1 ((up2_r (by decide)).trans ((up2_r (by decide)).trans (up2_r (by decide)))) ((up2_r (by decide)).trans ((up2_r (by decide)).trans (up2_r (by decide)))) oe)) (fun m111 q111 => ?_)
    refine j_if_eq_bz 140 117 dX11_whence_114 rfl rfl (fun h114 => ?_) (fun h114 => ?_)
    · refine j_iinc7 143 (1) dX11_whence_140 rfl rfl rfl rfl ?_
      refine j_goto 65 dX11_whence_143 rfl ?_
      have s2 : Sm thS m0 m111 := s3.trans q111
      have ih1 := ih (j + 1) m111 (by omega) s2
      rw [show 16 * a + (j + 1) = 16 * a + j + 1 by omega] at ih1
      rw [e2]
      by_cases hp : whP d h f K (16 * a + j)
      · rw [cN_t hp] at ih1
        by_cases h0 : cN (whP d h f K) (16 * a + j) = 0
        · rw [fs_t hp h0, x1, x2] at ih1
          first | (rw [e3]; exact ih1) | exact absurd h122 (fun q => (fs_neg (by omega)).mp q h0) | exact absurd hp h114
        · rw [fs_f (fun z => h0 z.2)] at ih1
          first | (rw [e3]; exact ih1) | exact absurd ((fs_neg (by omega)).mpr h0) h122 | exact absurd hp h114
      · rw [cN_f hp, fs_f (fun z => hp z.1)] at ih1
        first | exact ih1 | exact absurd h114 hp
    · refine j_iinc4 120 (1) dX11_whence_117 rfl rfl rfl rfl ?_
      refine j_iload5 122 dX11_whence_120 rfl ?_
      refine j_if_ge 136 125 dX11_whence_122 rfl rfl (fun h122 => ?_) (fun h122 => ?_)
      · refine j_iload5 138 dX11_whence_136 rfl ?_
        refine j_istore5 140 dX11_whence_138 rfl rfl rfl ?_
        refine j_iinc7 143 (1) dX11_whence_140 rfl rfl rfl rfl ?_
        refine j_goto 65 dX11_whence_143 rfl ?_
        have s2 : Sm thS m0 m111 := s3.trans q111
        have ih1 := ih (j + 1) m111 (by omega) s2
        rw [show 16 * a + (j + 1) = 16 * a + j + 1 by omega] at ih1
        rw [e2]
        by_cases hp : whP d h f K (16 * a + j)
        · rw [cN_t hp] at ih1
          by_cases h0 : cN (whP d h f K) (16 * a + j) = 0
          · rw [fs_t hp h0, x1, x2] at ih1
            first | (rw [e3]; exact ih1) | exact absurd h122 (fun q => (fs_neg (by omega)).mp q h0) | exact absurd hp h114
          · rw [fs_f (fun z => h0 z.2)] at ih1
            first | (rw [e3]; exact ih1) | exact absurd ((fs_neg (by omega)).mpr h0) h122 | exact absurd hp h114
        · rw [cN_f hp, fs_f (fun z => hp z.1)] at ih1
          first | exact ih1 | exact absurd h114 hp
      · refine j_bipush 127 (v := nI 100) dX11_whence_125 rfl rfl ?_
        refine j_iload6 129 dX11_whence_127 rfl ?_
        refine j_imulN 130 dX11_whence_129 rfl ?_
        refine j_iload7 132 dX11_whence_130 rfl ?_
        refine j_iaddN 133 dX11_whence_132 rfl ?_
        refine j_goto 138 dX11_whence_133 rfl ?_
        refine j_istore5 140 dX11_whence_138 rfl rfl rfl ?_
        refine j_iinc7 143 (1) dX11_whence_140 rfl rfl rfl rfl ?_
        refine j_goto 65 dX11_whence_143 rfl ?_
        have s2 : Sm thS m0 m111 := s3.trans q111
        have ih1 := ih (j + 1) m111 (by omega) s2
        rw [show 16 * a + (j + 1) = 16 * a + j + 1 by omega] at ih1
        rw [e2]
        by_cases hp : whP d h f K (16 * a + j)
        · rw [cN_t hp] at ih1
          by_cases h0 : cN (whP d h f K) (16 * a + j) = 0
          · rw [fs_t hp h0, x1, x2] at ih1
            first | (rw [e3]; exact ih1) | exact absurd h122 (fun q => (fs_neg (by omega)).mp q h0) | exact absurd hp h114
          · rw [fs_f (fun z => h0 z.2)] at ih1
            first | (rw [e3]; exact ih1) | exact absurd ((fs_neg (by omega)).mpr h0) h122 | exact absurd hp h114
        · rw [cN_f hp, fs_f (fun z => hp z.1)] at ih1
          first | exact ih1 | exact absurd h114 hp
set_option maxRecDepth 100000 in
theorem lp_whence_2 {Q : Option Value → Mem → Prop} (d : Nat → Int32) (w : WF d) (h : Nat) (hh : h < 8) (v : Int32) (f : Nat → Int32) (K : Nat) (h40 : K ≤ 40) (m0 : Mem) (hT0 : TR 9 m0 d) (hP : PR 36 m0 d) (hK : m0 66 2 = nI K) (hf0 : m0 63 = f) (kk : ∀ m', Sm thS m0 m' → ∀ o, J l g 6 mX11_whence 152 [some (rf g 0), some (.int (nI 2)), some (.int (nI h)), some (.int v), some (.int (nI (cN (whP d h f K) 112))), some (.int (fsI (whP d h f K) (-1) 112)), some (.int (nI 7)), o] [] m' Q) : ∀ (k a : Nat) (m : Mem) (o : Option Value), a + k = 7 → Sm thS m0 m → J l g 6 mX11_whence 55 [some (rf g 0), some (.int (nI 2)), some (.int (nI h)), some (.int v), some (.int (nI (cN (whP d h f K) (16 * a)))), some (.int (fsI (whP d h f K) (-1) (16 * a))), some (.int (nI a)), o] [] m Q := by
  intro k
  induction k with
  | zero =>
    intro a m o e hs
    have e : a = 7 := by omega
    subst e
    refine j_iload6 57 dX11_whence_55 rfl ?_
    refine j_bipush 59 (v := 7) dX11_whence_57 rfl rfl ?_
    refine j_cmp_ge 152 62 dX11_whence_59 rfl rfl (fun h59 => ?_) (fun h59 => absurd (by decide) h59)
    exact kk m hs _
  | succ k ih =>
    intro a m o e hs
    refine j_iload6 57 dX11_whence_55 rfl ?_
    refine j_bipush 59 (v := 7) dX11_whence_57 rfl rfl ?_
    refine j_cmp_ge 152 62 dX11_whence_59 rfl rfl (fun h59 => absurd h59 (nI_ge (a := a) (b := 7) (by omega) (by decide))) (fun h59 => ?_)
    refine j_iconst 63 (v := 0) dX11_whence_62 rfl rfl ?_
    refine j_istore7 65 dX11_whence_63 rfl rfl rfl ?_
    exact li_whence_2 d w h hh v f K h40 m0 hT0 hP hK hf0 a (by omega) (fun m' s o => ih (a + 1) m' o (by omega) s) 16 0 m rfl hs
set_option maxRecDepth 100000 in
theorem o_whence_2 {Q : Option Value → Mem → Prop} (m : Mem) (d : Nat → Int32) (w : WF d) (hT : TR 9 m d) (hP : PR 36 m d) (h : Nat) (hh : h < 8) (v : Int32) (f : Nat → Int32) (K : Nat) (h40 : K ≤ 40) (hK : m 66 2 = nI K) (hf0 : m 63 = f) (hb : ¬ m 65 2 = 0) (h1 : 0 ≤ nI h ∧ nI h < m 9 9 ∧ nI h < 8) (h3 : 0 ≤ v ∧ v ≤ 1) (kk0 : v = 0 → ∀ m', Sm thS m m' → Q (some (.int (nI (cN (whP d h f K) 112)))) m') (kk1 : ¬ v = 0 → cN (whP d h f K) 112 ≠ 0 → ∀ m', Sm thS m m' → Q (some (.int (fsI (whP d h f K) (-1) 112))) m') (kk2 : ¬ v = 0 → cN (whP d h f K) 112 = 0 → ∀ m', Sm thS m m' → Q (some (.int (-1000000002))) (errC 2 m')) : JM l g 6 mX11_whence [rf g 0, .int (nI 2), .int (nI h), .int v] m (Q) := by
  refine JM_of (ls := [some (rf g 0), some (.int (nI 2)), some (.int (nI h)), some (.int v), none, none, none, none]) pn_X11 rfl rfl ?_
  have tl : ∀ m', Sm thS m m' → ∀ o, J l g 6 mX11_whence 152 [some (rf g 0), some (.int (nI 2)), some (.int (nI h)), some (.int v), some (.int (nI (cN (whP d h f K) 112))), some (.int (fsI (whP d h f K) (-1) 112)), some (.int (nI 7)), o] [] m' Q := by
    intro m' s o
    refine j_iload3 153 dX11_whence_152 rfl ?_
    refine j_if_ne 159 156 dX11_whence_153 rfl rfl (fun h153 => ?_) (fun h153 => ?_)
    · refine j_iload5 161 dX11_whence_159 rfl ?_
      refine j_if_ge 173 164 dX11_whence_161 rfl rfl (fun h161 => ?_) (fun h161 => ?_)
      · refine j_iload5 175 dX11_whence_173 rfl ?_
        refine j_iret dX11_whence_175 rfl ?_
        first | exact kk1 h153 ((fs_neg (by decide)).mp h161) m' s | exact kk2 h153 (Classical.not_not.mp (fun q => h161 ((fs_neg (by decide)).mpr q))) m' s
      · refine j_aload0 165 dX11_whence_164 rfl ?_
        refine j_ldc 167 dX11_whence_165 rfl kc_X11_223 ?_
        refine j_vi1f 170 dX11_whence_167 rfl rfl cl_X11_82 rfl rfl (c_err2 m') ?_
        refine j_goto 175 dX11_whence_170 rfl ?_
        refine j_iret dX11_whence_175 rfl ?_
        first | exact kk1 h153 ((fs_neg (by decide)).mp h161) m' s | exact kk2 h153 (Classical.not_not.mp (fun q => h161 ((fs_neg (by decide)).mpr q))) m' s
    · refine j_iload4 158 dX11_whence_156 rfl ?_
      refine j_iret dX11_whence_158 rfl ?_
      exact kk0 h153 m' s
  refine j_iload1 1 dX11_whence_0 rfl ?_
  refine j_st1f 4 dX11_whence_1 rfl rfl cl_X11_230 rfl (c_isSheet m _) ?_
  refine j_if_eq_bz 24 7 dX11_whence_4 rfl rfl (fun h4 => absurd (by decide) h4) (fun h4 => ?_)
  refine j_aload0 8 dX11_whence_7 rfl ?_
  refine j_iload2 9 dX11_whence_8 rfl ?_
  refine j_vi1f 12 dX11_whence_9 rfl rfl cl_X11_124 rfl rfl (c_isHeir m _) ?_
  refine j_if_eq_bz 24 15 dX11_whence_12 rfl rfl (fun h12 => absurd h1 h12) (fun h12 => ?_)
  refine j_iload3 16 dX11_whence_15 rfl ?_
  refine j_iconst 17 (v := 0) dX11_whence_16 rfl rfl ?_
  refine j_iconst 18 (v := 1) dX11_whence_17 rfl rfl ?_
  refine j_st3f 21 dX11_whence_18 rfl rfl cl_X11_86 rfl (c_within m _ 0 1) ?_
  refine j_if_ne_bz 31 24 dX11_whence_21 rfl rfl (fun h21 => ?_) (fun h21 => absurd h3 h21)
  refine j_aload0 32 dX11_whence_31 rfl ?_
  refine j_iload1 33 dX11_whence_32 rfl ?_
  refine j_vi1f 36 dX11_whence_33 rfl rfl cl_X11_233 rfl rfl (c_isMissing m 2 (by decide)) ?_
  refine j_if_eq_bz 46 39 dX11_whence_36 rfl rfl (fun h36 => ?_) (fun h36 => absurd h36 hb)
  refine j_iconst 47 (v := 0) dX11_whence_46 rfl rfl ?_
  refine j_istore4 49 dX11_whence_47 rfl rfl rfl ?_
  refine j_iconst 50 (v := -1) dX11_whence_49 rfl rfl ?_
  refine j_istore5 52 dX11_whence_50 rfl rfl rfl ?_
  refine j_iconst 53 (v := 0) dX11_whence_52 rfl rfl ?_
  refine j_istore6 55 dX11_whence_53 rfl rfl rfl ?_
  exact lp_whence_2 d w h hh v f K h40 m hT hP hK hf0 tl 7 0 m none rfl Sm.rf
set_option maxRecDepth 100000 in
theorem lp_lies_3 {Q : Option Value → Mem → Prop} (e : Nat → Int32) (w : WF e) (h : Nat) (hh : h < 8) (f : Nat → Int32) (K : Nat) (h40 : K ≤ 40) (m0 : Mem) (hK : m0 66 3 = nI K) (hf0 : m0 64 = f) (k1 : tolP e h f K → ∀ m', Sm thS m0 m' → Q (some (.int 1)) m') (k0 : ¬ tolP e h f K → ∀ m', Sm thS m0 m' → Q (some (.int 0)) m') : ∀ (k i : Nat) (m : Mem), i + k = K → (∀ j, j < i → hf (itD (j + 1) e) h 4 = f j) → TR 18 m (itD i e) → LR m 39 (itD i e) 0 → LR m 43 (itD i e) 1 → Sm thS m0 m → J l g 5 mX11_liesAsTold 2 [some (rf g 0), some (.int (nI h)), some (.int (nI 3)), some (.int (nI i))] [] m Q := by
  intro k
  induction k with
  | zero =>
    intro i m ei ha hT hl0 hl1 hs
    have ei : i = K := by omega
    subst ei
    have e66 : m 66 3 = nI i := (congrFun (hs 66 (by decide)) _).trans hK
    refine j_iload3 3 dX11_liesAsTold_2 rfl ?_
    refine j_aload0 4 dX11_liesAsTold_3 rfl ?_
    refine j_getR 7 dX11_liesAsTold_4 rfl fl_X11_71 rfl rfl ?_
    refine j_iload2 8 dX11_liesAsTold_7 rfl ?_
    refine j_iald 9 3 rfl (by decide) dX11_liesAsTold_8 rfl rfl ?_
    refine j_top e66 ?_
    refine j_cmp_ge 57 12 dX11_liesAsTold_9 rfl rfl (fun h9 => ?_) (fun h9 => absurd (Int32.le_refl _) h9)
    refine j_iconst 58 (v := 1) dX11_liesAsTold_57 rfl rfl ?_
    refine j_zret (by first | exact bz_01 | exact Or.inl rfl | exact Or.inr rfl | assumption) dX11_liesAsTold_58 rfl ?_
    exact k1 ha m hs
  | succ k ih =>
    intro i m ei ha hT hl0 hl1 hs
    have e2 : nI i + 1 = nI (i + 1) := nI_1 i
    have e66 : m 66 3 = nI K := (congrFun (hs 66 (by decide)) _).trans hK
    have wi := itD_wf i w
    refine j_iload3 3 dX11_liesAsTold_2 rfl ?_
    refine j_aload0 4 dX11_liesAsTold_3 rfl ?_
    refine j_getR 7 dX11_liesAsTold_4 rfl fl_X11_71 rfl rfl ?_
    refine j_iload2 8 dX11_liesAsTold_7 rfl ?_
    refine j_iald 9 3 rfl (by decide) dX11_liesAsTold_8 rfl rfl ?_
    refine j_top e66 ?_
    refine j_cmp_ge 57 12 dX11_liesAsTold_9 rfl rfl (fun h9 => absurd h9 (nI_ge (a := i) (b := K) (by omega) (by omega))) (fun h9 => ?_)
    refine j_iload3 13 dX11_liesAsTold_12 rfl ?_
    refine j_bipush 15 (v := 40) dX11_liesAsTold_13 rfl rfl ?_
    refine j_cmp_ge 57 18 dX11_liesAsTold_15 rfl rfl (fun h15 => absurd h15 (nI_ge (a := i) (b := 40) (by omega) (by decide))) (fun h15 => ?_)
    refine j_aload0 19 dX11_liesAsTold_18 rfl ?_
    refine j_getR 22 dX11_liesAsTold_19 rfl fl_X11_39 rfl rfl ?_
    refine j_aload0 23 dX11_liesAsTold_22 rfl ?_
    refine j_getR 26 dX11_liesAsTold_23 rfl fl_X11_48 rfl rfl ?_
    refine j_vi1w 29 dX11_liesAsTold_26 rfl rfl cl_X11_213 rfl rfl (c_goDay_18 m (itD i e) wi hT hl0 hl1) (fun m26 q26 => ?_)
    have t1 : TR 18 m26 (itD (i + 1) e) := by rw [itD_s]; exact q26.1
    have s2 : Sm thS m0 m26 := hs.trans (q26.2.mono (by decide))
    have v1 : m26 25 h = hf (itD (i + 1) e) h 4 := t1.2.2.2.2.2.2.2 h hh 4 (by decide)
    have v2 : m26 64 i = f i := by rw [s2 64 (by decide), hf0]
    refine j_aload0 30 dX11_liesAsTold_29 rfl ?_
    refine j_getR 33 dX11_liesAsTold_30 rfl fl_X11_39 rfl rfl ?_
    refine j_getR 36 dX11_liesAsTold_33 rfl fl_X11_139 rfl rfl ?_
    refine j_iload1 37 dX11_liesAsTold_36 rfl ?_
    refine j_iald 38 _ rfl hh dX11_liesAsTold_37 rfl rfl ?_
    refine j_aload0 39 dX11_liesAsTold_38 rfl ?_
    refine j_getR 42 dX11_liesAsTold_39 rfl fl_X11_64 rfl rfl ?_
    refine j_iload2 43 dX11_liesAsTold_42 rfl ?_
    refine j_aald 44 3 rfl (by decide) dX11_liesAsTold_43 rfl (by decide) ?_
    refine j_ref (b := 64) (by decide) ?_
    refine j_iload3 45 dX11_liesAsTold_44 rfl ?_
    refine j_iald 46 _ rfl (show i < 40 by omega) dX11_liesAsTold_45 rfl rfl ?_
    refine j_cmp_eq 51 49 dX11_liesAsTold_46 rfl rfl (fun h46 => ?_) (fun h46 => ?_)
    · refine j_iinc3 54 (1) dX11_liesAsTold_51 rfl rfl rfl rfl ?_
      refine j_goto 2 dX11_liesAsTold_54 rfl ?_
      rw [e2]
      refine ih (i + 1) m26 (by omega) (fun j hj => ?_) t1 ?_ ?_ s2
      · by_cases q : j = i
        · rw [q]; exact v1.symm.trans (h46.trans v2)
        · exact ha j (by omega)
      · rw [itD_s]; exact LR_congr (by decide) hl0 (q26.2 39 (by decide)) (q26.2 40 (by decide)) (fun k hk => dayF_k wi (by omega) (by omega) (by omega))
      · rw [itD_s]; exact LR_congr (by decide) hl1 (q26.2 43 (by decide)) (q26.2 44 (by decide)) (fun k hk => dayF_k wi (by omega) (by omega) (by omega))
    · refine j_iconst 50 (v := 0) dX11_liesAsTold_49 rfl rfl ?_
      refine j_zret (by first | exact bz_01 | exact Or.inl rfl | exact Or.inr rfl | assumption) dX11_liesAsTold_50 rfl ?_
      exact k0 (fun q => h46 (v1.trans ((q i (by omega)).trans v2.symm))) m26 s2
set_option maxRecDepth 100000 in
theorem c_lies_3 (m : Mem) (e : Nat → Int32) (w : WF e) (h : Nat) (hh : h < 8) (f : Nat → Int32) (K : Nat) (h40 : K ≤ 40) (hK : m 66 3 = nI K) (hf0 : m 64 = f) (hT : TR 18 m e) (hl0 : LR m 39 e 0) (hl1 : LR m 43 e 1) : JM l g 5 mX11_liesAsTold [rf g 0, .int (nI h), .int (nI 3)] m (RS (some (.int (bz (tolP e h f K)))) (Sm thS m)) := by
  refine JM_of (ls := [some (rf g 0), some (.int (nI h)), some (.int (nI 3)), none]) pn_X11 rfl rfl ?_
  refine j_iconst 1 (v := 0) dX11_liesAsTold_0 rfl rfl ?_
  refine j_istore3 2 dX11_liesAsTold_1 rfl rfl rfl ?_
  exact lp_lies_3 e w h hh f K h40 m hK hf0 (fun q m' s => ⟨by rw [bz_t q], s⟩) (fun q m' s => ⟨by rw [bz_f q], s⟩) K 0 m (Nat.zero_add _) (fun j hj => absurd hj (Nat.not_lt_zero j)) hT hl0 hl1 Sm.rf
set_option maxRecDepth 100000 in
theorem li_whence_3 {Q : Option Value → Mem → Prop} (d : Nat → Int32) (w : WF d) (h : Nat) (hh : h < 8) (v : Int32) (f : Nat → Int32) (K : Nat) (h40 : K ≤ 40) (m0 : Mem) (hT0 : TR 9 m0 d) (hP : PR 36 m0 d) (hK : m0 66 3 = nI K) (hf0 : m0 64 = f) (a : Nat) (ha : a < 7) (kk : ∀ m', Sm thS m0 m' → ∀ o, J l g 6 mX11_whence 55 [some (rf g 0), some (.int (nI 3)), some (.int (nI h)), some (.int v), some (.int (nI (cN (whP d h f K) (16 * (a + 1))))), some (.int (fsI (whP d h f K) (-1) (16 * (a + 1)))), some (.int (nI (a + 1))), o] [] m' Q) : ∀ (k j : Nat) (m : Mem), j + k = 16 → Sm thS m0 m → J l g 6 mX11_whence 65 [some (rf g 0), some (.int (nI 3)), some (.int (nI h)), some (.int v), some (.int (nI (cN (whP d h f K) (16 * a + j)))), some (.int (fsI (whP d h f K) (-1) (16 * a + j))), some (.int (nI a)), some (.int (nI j))] [] m Q := by
  intro k
  induction k with
  | zero =>
    intro j m e hs
    have e : j = 16 := by omega
    subst e
    have e1 : nI a + 1 = nI (a + 1) := nI_1 a
    have e16 : 16 * a + 16 = 16 * (a + 1) := by omega
    refine j_iload7 67 dX11_whence_65 rfl ?_
    refine j_bipush 69 (v := 16) dX11_whence_67 rfl rfl ?_
    refine j_cmp_ge 146 72 dX11_whence_69 rfl rfl (fun h69 => ?_) (fun h69 => absurd (by decide) h69)
    refine j_iinc6 149 (1) dX11_whence_146 rfl rfl rfl rfl ?_
    refine j_goto 55 dX11_whence_149 rfl ?_
    rw [e1, e16]
    exact kk m hs _
  | succ k ih =>
    intro j m e hs
    have e2 : nI j + 1 = nI (j + 1) := nI_1 j
    have e3 : nI (cN (whP d h f K) (16 * a + j)) + 1 = nI (cN (whP d h f K) (16 * a + j) + 1) := nI_1 _
    have hk : 16 * a + j < 112 := by omega
    have x1 : (16 * a + j) / 16 = a := by omega
    have x2 : (16 * a + j) % 16 = j := by omega
    have w1 := WF_wh w (h := h) (k := 16 * a + j) hh hk
    have oe : ∀ k, 88 ≤ k → whD d h (16 * a + j) k = d k := fun k hk => whD_o (by omega) (by omega) (by omega)
    refine j_iload7 67 dX11_whence_65 rfl ?_
    refine j_bipush 69 (v := 16) dX11_whence_67 rfl rfl ?_
    refine j_cmp_ge 146 72 dX11_whence_69 rfl rfl (fun h69 => absurd h69 (nI_ge (a := j) (b := 16) (by omega) (by decide))) (fun h69 => ?_)
    refine j_aload0 73 dX11_whence_72 rfl ?_
    refine j_vi0w 76 dX11_whence_73 rfl rfl cl_X11_217 rfl rfl (c_think m) (fun m73 q73 => ?_)
    have s1 : Sm thS m0 m73 := hs.trans (q73.2.mono (by decide))
    have t1 := q73.1 d (thT hs hT0)
    obtain ⟨l0, l1⟩ := LR2 hP (s1 39 (by decide)) (s1 40 (by decide)) (s1 43 (by decide)) (s1 44 (by decide))
    have t2 : TR 18 (up2 (up2 (up2 m73 21 h (nI a)) 24 h 0) 25 h (nI j)) (whD d h (16 * a + j)) := by
      have t := TR_hf (r := 4) (v := nI j) (TR_hf (r := 3) (v := 0) (TR_hf (r := 0) (v := nI a) t1 hh (by decide)) hh (by decide)) hh (by decide)
      unfold whD
      rw [x1, x2]
      exact t
    refine j_aload0 77 dX11_whence_76 rfl ?_
    refine j_getR 80 dX11_whence_77 rfl fl_X11_39 rfl rfl ?_
    refine j_getR 83 dX11_whence_80 rfl fl_X11_127 rfl rfl ?_
    refine j_iload2 84 dX11_whence_83 rfl ?_
    refine j_iload6 86 dX11_whence_84 rfl ?_
    refine j_iast 87 _ rfl hh dX11_whence_86 rfl rfl ?_
    refine j_aload0 88 dX11_whence_87 rfl ?_
    refine j_getR 91 dX11_whence_88 rfl fl_X11_39 rfl rfl ?_
    refine j_getR 94 dX11_whence_91 rfl fl_X11_136 rfl rfl ?_
    refine j_iload2 95 dX11_whence_94 rfl ?_
    refine j_iconst 96 (v := 0) dX11_whence_95 rfl rfl ?_
    refine j_iast 97 _ rfl hh dX11_whence_96 rfl rfl ?_
    refine j_aload0 98 dX11_whence_97 rfl ?_
    refine j_getR 101 dX11_whence_98 rfl fl_X11_39 rfl rfl ?_
    refine j_getR 104 dX11_whence_101 rfl fl_X11_139 rfl rfl ?_
    refine j_iload2 105 dX11_whence_104 rfl ?_
    refine j_iload7 107 dX11_whence_105 rfl ?_
    refine j_iast 108 _ rfl hh dX11_whence_107 rfl rfl ?_
    have s3 : Sm thS m0 (up2 (up2 (up2 m73 21 h (nI a)) 24 h 0) 25 h (nI j)) := ((s1.up (by decide)).up (by decide)).up (by decide)
    refine j_aload0 109 dX11_whence_108 rfl ?_
    refine j_iload2 110 dX11_whence_109 rfl ?_
    refine j_iload1 111 dX11_whence_110 rfl ?_
    refine j_vi2s 114 dX11_whence_111 rfl rfl cl_X11_236 rfl rfl (c_lies_3 (up2 (up2 (up2 m73 21 h (nI a)) 24 h 0) 25 h (nI j)) (whD d h (16 * a + j)) w1 h hh f K h40 ((congrFun (s3 66 (by decide)) _).trans hK) ((s3 64 (by decide)).trans hf0) t2 (LR_congr (by decide) l0 ((up2_r (by decide)).trans ((up2_r (by decide)).trans (up2_r (by decide)))) ((up2_r (by decide)).trans ((up2_r (by decide)).trans (up2_r (by decide)))) oe) (LR_congr (by decide) l1 ((up2_r (by decide)).trans ((up2_r (by decide)).trans (up2_r (by decide)))) ((up2_r (by decide)).trans ((up2_r (by decide)).trans (up2_r (by decide)))) oe)) (fun m111 q111 => ?_)
    refine j_if_eq_bz 140 117 dX11_whence_114 rfl rfl (fun h114 => ?_) (fun h114 => ?_)
    · refine j_iinc7 143 (1) dX11_whence_140 rfl rfl rfl rfl ?_
      refine j_goto 65 dX11_whence_143 rfl ?_
      have s2 : Sm thS m0 m111 := s3.trans q111
      have ih1 := ih (j + 1) m111 (by omega) s2
      rw [show 16 * a + (j + 1) = 16 * a + j + 1 by omega] at ih1
      rw [e2]
      by_cases hp : whP d h f K (16 * a + j)
      · rw [cN_t hp] at ih1
        by_cases h0 : cN (whP d h f K) (16 * a + j) = 0
        · rw [fs_t hp h0, x1, x2] at ih1
          first | (rw [e3]; exact ih1) | exact absurd h122 (fun q => (fs_neg (by omega)).mp q h0) | exact absurd hp h114
        · rw [fs_f (fun z => h0 z.2)] at ih1
          first | (rw [e3]; exact ih1) | exact absurd ((fs_neg (by omega)).mpr h0) h122 | exact absurd hp h114
      · rw [cN_f hp, fs_f (fun z => hp z.1)] at ih1
        first | exact ih1 | exact absurd h114 hp
    · refine j_iinc4 120 (1) dX11_whence_117 rfl rfl rfl rfl ?_
      refine j_iload5 122 dX11_whence_120 rfl ?_
      refine j_if_ge 136 125 dX11_whence_122 rfl rfl (fun h122 => ?_) (fun h122 => ?_)
      · refine j_iload5 138 dX11_whence_136 rfl ?_
        refine j_istore5 140 dX11_whence_138 rfl rfl rfl ?_
        refine j_iinc7 143 (1) dX11_whence_140 rfl rfl rfl rfl ?_
        refine j_goto 65 dX11_whence_143 rfl ?_
        have s2 : Sm thS m0 m111 := s3.trans q111
        have ih1 := ih (j + 1) m111 (by omega) s2
        rw [show 16 * a + (j + 1) = 16 * a + j + 1 by omega] at ih1
        rw [e2]
        by_cases hp : whP d h f K (16 * a + j)
        · rw [cN_t hp] at ih1
          by_cases h0 : cN (whP d h f K) (16 * a + j) = 0
          · rw [fs_t hp h0, x1, x2] at ih1
            first | (rw [e3]; exact ih1) | exact absurd h122 (fun q => (fs_neg (by omega)).mp q h0) | exact absurd hp h114
          · rw [fs_f (fun z => h0 z.2)] at ih1
            first | (rw [e3]; exact ih1) | exact absurd ((fs_neg (by omega)).mpr h0) h122 | exact absurd hp h114
        · rw [cN_f hp, fs_f (fun z => hp z.1)] at ih1
          first | exact ih1 | exact absurd h114 hp
      · refine j_bipush 127 (v := nI 100) dX11_whence_125 rfl rfl ?_
        refine j_iload6 129 dX11_whence_127 rfl ?_
        refine j_imulN 130 dX11_whence_129 rfl ?_
        refine j_iload7 132 dX11_whence_130 rfl ?_
        refine j_iaddN 133 dX11_whence_132 rfl ?_
        refine j_goto 138 dX11_whence_133 rfl ?_
        refine j_istore5 140 dX11_whence_138 rfl rfl rfl ?_
        refine j_iinc7 143 (1) dX11_whence_140 rfl rfl rfl rfl ?_
        refine j_goto 65 dX11_whence_143 rfl ?_
        have s2 : Sm thS m0 m111 := s3.trans q111
        have ih1 := ih (j + 1) m111 (by omega) s2
        rw [show 16 * a + (j + 1) = 16 * a + j + 1 by omega] at ih1
        rw [e2]
        by_cases hp : whP d h f K (16 * a + j)
        · rw [cN_t hp] at ih1
          by_cases h0 : cN (whP d h f K) (16 * a + j) = 0
          · rw [fs_t hp h0, x1, x2] at ih1
            first | (rw [e3]; exact ih1) | exact absurd h122 (fun q => (fs_neg (by omega)).mp q h0) | exact absurd hp h114
          · rw [fs_f (fun z => h0 z.2)] at ih1
            first | (rw [e3]; exact ih1) | exact absurd ((fs_neg (by omega)).mpr h0) h122 | exact absurd hp h114
        · rw [cN_f hp, fs_f (fun z => hp z.1)] at ih1
          first | exact ih1 | exact absurd h114 hp
set_option maxRecDepth 100000 in
theorem lp_whence_3 {Q : Option Value → Mem → Prop} (d : Nat → Int32) (w : WF d) (h : Nat) (hh : h < 8) (v : Int32) (f : Nat → Int32) (K : Nat) (h40 : K ≤ 40) (m0 : Mem) (hT0 : TR 9 m0 d) (hP : PR 36 m0 d) (hK : m0 66 3 = nI K) (hf0 : m0 64 = f) (kk : ∀ m', Sm thS m0 m' → ∀ o, J l g 6 mX11_whence 152 [some (rf g 0), some (.int (nI 3)), some (.int (nI h)), some (.int v), some (.int (nI (cN (whP d h f K) 112))), some (.int (fsI (whP d h f K) (-1) 112)), some (.int (nI 7)), o] [] m' Q) : ∀ (k a : Nat) (m : Mem) (o : Option Value), a + k = 7 → Sm thS m0 m → J l g 6 mX11_whence 55 [some (rf g 0), some (.int (nI 3)), some (.int (nI h)), some (.int v), some (.int (nI (cN (whP d h f K) (16 * a)))), some (.int (fsI (whP d h f K) (-1) (16 * a))), some (.int (nI a)), o] [] m Q := by
  intro k
  induction k with
  | zero =>
    intro a m o e hs
    have e : a = 7 := by omega
    subst e
    refine j_iload6 57 dX11_whence_55 rfl ?_
    refine j_bipush 59 (v := 7) dX11_whence_57 rfl rfl ?_
    refine j_cmp_ge 152 62 dX11_whence_59 rfl rfl (fun h59 => ?_) (fun h59 => absurd (by decide) h59)
    exact kk m hs _
  | succ k ih =>
    intro a m o e hs
    refine j_iload6 57 dX11_whence_55 rfl ?_
    refine j_bipush 59 (v := 7) dX11_whence_57 rfl rfl ?_
    refine j_cmp_ge 152 62 dX11_whence_59 rfl rfl (fun h59 => absurd h59 (nI_ge (a := a) (b := 7) (by omega) (by decide))) (fun h59 => ?_)
    refine j_iconst 63 (v := 0) dX11_whence_62 rfl rfl ?_
    refine j_istore7 65 dX11_whence_63 rfl rfl rfl ?_
    exact li_whence_3 d w h hh v f K h40 m0 hT0 hP hK hf0 a (by omega) (fun m' s o => ih (a + 1) m' o (by omega) s) 16 0 m rfl hs
set_option maxRecDepth 100000 in
theorem o_whence_3 {Q : Option Value → Mem → Prop} (m : Mem) (d : Nat → Int32) (w : WF d) (hT : TR 9 m d) (hP : PR 36 m d) (h : Nat) (hh : h < 8) (v : Int32) (f : Nat → Int32) (K : Nat) (h40 : K ≤ 40) (hK : m 66 3 = nI K) (hf0 : m 64 = f) (hb : ¬ m 65 3 = 0) (h1 : 0 ≤ nI h ∧ nI h < m 9 9 ∧ nI h < 8) (h3 : 0 ≤ v ∧ v ≤ 1) (kk0 : v = 0 → ∀ m', Sm thS m m' → Q (some (.int (nI (cN (whP d h f K) 112)))) m') (kk1 : ¬ v = 0 → cN (whP d h f K) 112 ≠ 0 → ∀ m', Sm thS m m' → Q (some (.int (fsI (whP d h f K) (-1) 112))) m') (kk2 : ¬ v = 0 → cN (whP d h f K) 112 = 0 → ∀ m', Sm thS m m' → Q (some (.int (-1000000002))) (errC 2 m')) : JM l g 6 mX11_whence [rf g 0, .int (nI 3), .int (nI h), .int v] m (Q) := by
  refine JM_of (ls := [some (rf g 0), some (.int (nI 3)), some (.int (nI h)), some (.int v), none, none, none, none]) pn_X11 rfl rfl ?_
  have tl : ∀ m', Sm thS m m' → ∀ o, J l g 6 mX11_whence 152 [some (rf g 0), some (.int (nI 3)), some (.int (nI h)), some (.int v), some (.int (nI (cN (whP d h f K) 112))), some (.int (fsI (whP d h f K) (-1) 112)), some (.int (nI 7)), o] [] m' Q := by
    intro m' s o
    refine j_iload3 153 dX11_whence_152 rfl ?_
    refine j_if_ne 159 156 dX11_whence_153 rfl rfl (fun h153 => ?_) (fun h153 => ?_)
    · refine j_iload5 161 dX11_whence_159 rfl ?_
      refine j_if_ge 173 164 dX11_whence_161 rfl rfl (fun h161 => ?_) (fun h161 => ?_)
      · refine j_iload5 175 dX11_whence_173 rfl ?_
        refine j_iret dX11_whence_175 rfl ?_
        first | exact kk1 h153 ((fs_neg (by decide)).mp h161) m' s | exact kk2 h153 (Classical.not_not.mp (fun q => h161 ((fs_neg (by decide)).mpr q))) m' s
      · refine j_aload0 165 dX11_whence_164 rfl ?_
        refine j_ldc 167 dX11_whence_165 rfl kc_X11_223 ?_
        refine j_vi1f 170 dX11_whence_167 rfl rfl cl_X11_82 rfl rfl (c_err2 m') ?_
        refine j_goto 175 dX11_whence_170 rfl ?_
        refine j_iret dX11_whence_175 rfl ?_
        first | exact kk1 h153 ((fs_neg (by decide)).mp h161) m' s | exact kk2 h153 (Classical.not_not.mp (fun q => h161 ((fs_neg (by decide)).mpr q))) m' s
    · refine j_iload4 158 dX11_whence_156 rfl ?_
      refine j_iret dX11_whence_158 rfl ?_
      exact kk0 h153 m' s
  refine j_iload1 1 dX11_whence_0 rfl ?_
  refine j_st1f 4 dX11_whence_1 rfl rfl cl_X11_230 rfl (c_isSheet m _) ?_
  refine j_if_eq_bz 24 7 dX11_whence_4 rfl rfl (fun h4 => absurd (by decide) h4) (fun h4 => ?_)
  refine j_aload0 8 dX11_whence_7 rfl ?_
  refine j_iload2 9 dX11_whence_8 rfl ?_
  refine j_vi1f 12 dX11_whence_9 rfl rfl cl_X11_124 rfl rfl (c_isHeir m _) ?_
  refine j_if_eq_bz 24 15 dX11_whence_12 rfl rfl (fun h12 => absurd h1 h12) (fun h12 => ?_)
  refine j_iload3 16 dX11_whence_15 rfl ?_
  refine j_iconst 17 (v := 0) dX11_whence_16 rfl rfl ?_
  refine j_iconst 18 (v := 1) dX11_whence_17 rfl rfl ?_
  refine j_st3f 21 dX11_whence_18 rfl rfl cl_X11_86 rfl (c_within m _ 0 1) ?_
  refine j_if_ne_bz 31 24 dX11_whence_21 rfl rfl (fun h21 => ?_) (fun h21 => absurd h3 h21)
  refine j_aload0 32 dX11_whence_31 rfl ?_
  refine j_iload1 33 dX11_whence_32 rfl ?_
  refine j_vi1f 36 dX11_whence_33 rfl rfl cl_X11_233 rfl rfl (c_isMissing m 3 (by decide)) ?_
  refine j_if_eq_bz 46 39 dX11_whence_36 rfl rfl (fun h36 => ?_) (fun h36 => absurd h36 hb)
  refine j_iconst 47 (v := 0) dX11_whence_46 rfl rfl ?_
  refine j_istore4 49 dX11_whence_47 rfl rfl rfl ?_
  refine j_iconst 50 (v := -1) dX11_whence_49 rfl rfl ?_
  refine j_istore5 52 dX11_whence_50 rfl rfl rfl ?_
  refine j_iconst 53 (v := 0) dX11_whence_52 rfl rfl ?_
  refine j_istore6 55 dX11_whence_53 rfl rfl rfl ?_
  exact lp_whence_3 d w h hh v f K h40 m hT hP hK hf0 tl 7 0 m none rfl Sm.rf
end O26
