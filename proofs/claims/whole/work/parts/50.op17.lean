/-! place, stop -/
def plD (d : Nat → Int32) (h : Nat) (x : Int32) : Nat → Int32 := upd1 (upd1 d (40 + 6 * h + 2) x) (40 + 6 * h + 4) (if hf d h 3 = 0 then x else -1)
theorem plD_o {d : Nat → Int32} {h k : Nat} {x : Int32} (h1 : k ≠ 40 + 6 * h + 2) (h2 : k ≠ 40 + 6 * h + 4) : plD d h x k = d k := by
  unfold plD upd1
  rw [if_neg h2, if_neg h1]
theorem plD_n {d : Nat → Int32} {h : Nat} {x : Int32} (w : HW d h) (q : ¬ hf d h 3 = 0) : plD d h x = upd1 d (40 + 6 * h + 2) x := by
  funext k
  unfold plD upd1
  by_cases z : k = 40 + 6 * h + 4
  · rw [if_pos z, if_neg q, if_neg (by omega), z]
    exact (w.2.2.2.2.2.1 q).symm
  · rw [if_neg z]
theorem plD_t {d : Nat → Int32} {h : Nat} {x : Int32} (q : hf d h 3 = 0) : plD d h x = upd1 (upd1 d (40 + 6 * h + 2) x) (40 + 6 * h + 4) x := by
  unfold plD
  rw [if_pos q]
theorem WF_pl {d : Nat → Int32} (w : WF d) {h i : Nat} (hh : h < 8) (hi : i < 16) : WF (plD d h (nI i)) := by
  refine WF_heir' w (h := h) (fun k hk => plD_o (by omega) (by omega)) hh ?_
  obtain ⟨a0, a1, a2, a3, a4, a5, a6⟩ := w.hw hh
  have e0 : plD d h (nI i) (40 + 6 * h + 0) = d (40 + 6 * h + 0) := plD_o (by omega) (by omega)
  have e1 : plD d h (nI i) (40 + 6 * h + 1) = d (40 + 6 * h + 1) := plD_o (by omega) (by omega)
  have e3 : plD d h (nI i) (40 + 6 * h + 3) = d (40 + 6 * h + 3) := plD_o (by omega) (by omega)
  have e5 : plD d h (nI i) (40 + 6 * h + 5) = d (40 + 6 * h + 5) := plD_o (by omega) (by omega)
  have e2 : plD d h (nI i) (40 + 6 * h + 2) = nI i := by unfold plD upd1; rw [if_neg (by omega), if_pos rfl]
  have e4 : plD d h (nI i) (40 + 6 * h + 4) = if hf d h 3 = 0 then nI i else -1 := by unfold plD upd1; rw [if_pos rfl]
  refine ⟨by show nb (plD d h (nI i) (40 + 6 * h + 0)) 7; rw [e0]; exact a0, by show nb (plD d h (nI i) (40 + 6 * h + 1)) 10; rw [e1]; exact a1, by show nb (plD d h (nI i) (40 + 6 * h + 2)) 16; rw [e2]; exact ⟨i, hi, rfl⟩, by show nb (plD d h (nI i) (40 + 6 * h + 3)) 100; rw [e3]; exact a3, fun q => ?_, fun q => ?_, by show nb (plD d h (nI i) (40 + 6 * h + 5)) 10000; rw [e5]; exact a6⟩
  · have q : plD d h (nI i) (40 + 6 * h + 3) = 0 := q
    rw [e3] at q
    show nb (plD d h (nI i) (40 + 6 * h + 4)) 16
    rw [e4, if_pos q]
    exact ⟨i, hi, rfl⟩
  · have q : plD d h (nI i) (40 + 6 * h + 3) ≠ 0 := q
    rw [e3] at q
    show plD d h (nI i) (40 + 6 * h + 4) = -1
    rw [e4, if_neg q]
theorem WF_stop {d : Nat → Int32} (w : WF d) {i : Nat} (hi : i < 16) : WF (upd1 d (24 + i) (nI i)) := WF_to' w hi ⟨i, hi, rfl⟩
section O17
variable {l : Launch} {g : Gv}
set_option maxRecDepth 100000 in
theorem lp_place {Q : Option Value → Mem → Prop} (d : Nat → Int32) (w : WF d) (h n : Nat) (hh : h < 8) (hn : n ≤ 30) (v : Int32) (m0 : Mem) (hT0 : TR 9 m0 d) (hP : PR 36 m0 d) (V : Nat → Int32) (hV : ∀ i, V i = hf (itD n (plD d h (nI i))) h 5) (kk : ∀ m', Sm thS m0 m' → Q (some (.int (if v = 0 then scI V 0 (-1) 0 16 else scV V 0 (-1) 16))) m') : ∀ (k j : Nat) (m : Mem), j + k = 16 → Sm thS m0 m → J l g 6 mX11_place 43 [some (rf g 0), some (.int (nI h)), some (.int (nI n)), some (.int v), some (.int (scI V 0 (-1) 0 j)), some (.int (scV V 0 (-1) j)), some (.int (nI (0 + j)))] [] m Q := by
  intro k
  induction k with
  | zero =>
    intro j m e hs
    have e : j = 16 := by omega
    subst e
    have z := kk m hs
    refine j_iload6 45 dX11_place_43 rfl ?_
    refine j_bipush 47 (v := 16) dX11_place_45 rfl rfl ?_
    refine j_cmp_ge 134 50 dX11_place_47 rfl rfl (fun h47 => ?_) (fun h47 => absurd (by decide) h47)
    refine j_iload3 135 dX11_place_134 rfl ?_
    refine j_if_ne 143 138 dX11_place_135 rfl rfl (fun h135 => ?_) (fun h135 => ?_)
    · refine j_iload5 145 dX11_place_143 rfl ?_
      refine j_iret dX11_place_145 rfl ?_
      first | (rw [if_pos h135] at z; exact z) | (rw [if_neg h135] at z; exact z)
    · refine j_iload4 140 dX11_place_138 rfl ?_
      refine j_goto 145 dX11_place_140 rfl ?_
      refine j_iret dX11_place_145 rfl ?_
      first | (rw [if_pos h135] at z; exact z) | (rw [if_neg h135] at z; exact z)
  | succ k ih =>
    intro j m e hs
    have e2 : nI (0 + j) + 1 = nI (0 + (j + 1)) := nI_1 (0 + j)
    have w1 := WF_pl w (h := h) (i := 0 + j) hh (by omega)
    have oe : ∀ k, 88 ≤ k → plD d h (nI (0 + j)) k = d k := fun k hk => plD_o (by omega) (by omega)
    have tail : ∀ m1, TR 18 m1 (plD d h (nI (0 + j))) → Sm thS m0 m1 → J l g 6 mX11_place 87 [some (rf g 0), some (.int (nI h)), some (.int (nI n)), some (.int v), some (.int (scI V 0 (-1) 0 j)), some (.int (scV V 0 (-1) j)), some (.int (nI (0 + j)))] [] m1 Q := by
      intro m1 hT1 s1
      obtain ⟨l0, l1⟩ := LR2 hP (s1 39 (by decide)) (s1 40 (by decide)) (s1 43 (by decide)) (s1 44 (by decide))
      refine j_aload0 88 dX11_place_87 rfl ?_
      refine j_getR 91 dX11_place_88 rfl fl_X11_39 rfl rfl ?_
      refine j_iload2 92 dX11_place_91 rfl ?_
      refine j_aload0 93 dX11_place_92 rfl ?_
      refine j_getR 96 dX11_place_93 rfl fl_X11_48 rfl rfl ?_
      refine j_vi2w 99 dX11_place_96 rfl rfl cl_X11_205 rfl rfl (c_goDays_18 m1 (plD d h (nI (0 + j))) n (by omega) w1 hT1 (LR_congr (by decide) l0 rfl rfl oe) (LR_congr (by decide) l1 rfl rfl oe)) (fun m96 q96 => ?_)
      have v1 : m96 26 h = V (0 + j) := (q96.1.2.2.2.2.2.2.2 h hh 5 (by decide)).trans (hV _).symm
      refine j_aload0 100 dX11_place_99 rfl ?_
      refine j_getR 103 dX11_place_100 rfl fl_X11_39 rfl rfl ?_
      refine j_getR 106 dX11_place_103 rfl fl_X11_142 rfl rfl ?_
      refine j_iload1 107 dX11_place_106 rfl ?_
      refine j_iald 108 _ rfl hh dX11_place_107 rfl rfl ?_
      refine j_iload5 110 dX11_place_108 rfl ?_
      refine j_cmp_le 128 113 dX11_place_110 rfl rfl (fun h110 => ?_) (fun h110 => ?_)
      · refine j_iinc6 131 (1) dX11_place_128 rfl rfl rfl rfl ?_
        refine j_goto 43 dX11_place_131 rfl ?_
        rw [e2]
        rw [v1] at h110
        have s2 : Sm thS m0 m96 := s1.trans (q96.2.mono (by decide))
        have ih1 := ih (j + 1) m96 (by omega) s2
        first | (rw [(sc_f (a := 0) (show V (0 + j) ≤ scV V 0 (-1) j from h110)).1, (sc_f (a := 0) (show V (0 + j) ≤ scV V 0 (-1) j from h110)).2] at ih1; exact ih1) | (rw [(sc_t (a := 0) (show ¬ V (0 + j) ≤ scV V 0 (-1) j from h110)).1, (sc_t (a := 0) (show ¬ V (0 + j) ≤ scV V 0 (-1) j from h110)).2] at ih1; rw [v1]; exact ih1)
      · refine j_aload0 114 dX11_place_113 rfl ?_
        refine j_getR 117 dX11_place_114 rfl fl_X11_39 rfl rfl ?_
        refine j_getR 120 dX11_place_117 rfl fl_X11_142 rfl rfl ?_
        refine j_iload1 121 dX11_place_120 rfl ?_
        refine j_iald 122 _ rfl hh dX11_place_121 rfl rfl ?_
        refine j_istore5 124 dX11_place_122 rfl rfl rfl ?_
        refine j_iload6 126 dX11_place_124 rfl ?_
        refine j_istore4 128 dX11_place_126 rfl rfl rfl ?_
        refine j_iinc6 131 (1) dX11_place_128 rfl rfl rfl rfl ?_
        refine j_goto 43 dX11_place_131 rfl ?_
        rw [e2]
        rw [v1] at h110
        have s2 : Sm thS m0 m96 := s1.trans (q96.2.mono (by decide))
        have ih1 := ih (j + 1) m96 (by omega) s2
        first | (rw [(sc_f (a := 0) (show V (0 + j) ≤ scV V 0 (-1) j from h110)).1, (sc_f (a := 0) (show V (0 + j) ≤ scV V 0 (-1) j from h110)).2] at ih1; exact ih1) | (rw [(sc_t (a := 0) (show ¬ V (0 + j) ≤ scV V 0 (-1) j from h110)).1, (sc_t (a := 0) (show ¬ V (0 + j) ≤ scV V 0 (-1) j from h110)).2] at ih1; rw [v1]; exact ih1)
    refine j_iload6 45 dX11_place_43 rfl ?_
    refine j_bipush 47 (v := 16) dX11_place_45 rfl rfl ?_
    refine j_cmp_ge 134 50 dX11_place_47 rfl rfl (fun h47 => absurd h47 (nI_ge (a := 0 + j) (b := 16) (by omega) (by decide))) (fun h47 => ?_)
    refine j_aload0 51 dX11_place_50 rfl ?_
    refine j_vi0w 54 dX11_place_51 rfl rfl cl_X11_217 rfl rfl (c_think m) (fun m51 q51 => ?_)
    have s1 : Sm thS m0 m51 := hs.trans (q51.2.mono (by decide))
    have t1 := q51.1 d (thT hs hT0)
    have u1 : TR 18 (up2 m51 23 h (nI (0 + j))) (upd1 d (40 + 6 * h + 2) (nI (0 + j))) := TR_hf (r := 2) t1 hh (by decide)
    have e3 : up2 m51 23 h (nI (0 + j)) 24 h = hf d h 3 := (up2_a (by decide)).trans (t1.2.2.2.2.2.2.2 h hh 3 (by decide))
    refine j_aload0 55 dX11_place_54 rfl ?_
    refine j_getR 58 dX11_place_55 rfl fl_X11_39 rfl rfl ?_
    refine j_getR 61 dX11_place_58 rfl fl_X11_133 rfl rfl ?_
    refine j_iload1 62 dX11_place_61 rfl ?_
    refine j_iload6 64 dX11_place_62 rfl ?_
    refine j_iast 65 _ rfl hh dX11_place_64 rfl rfl ?_
    refine j_aload0 66 dX11_place_65 rfl ?_
    refine j_getR 69 dX11_place_66 rfl fl_X11_39 rfl rfl ?_
    refine j_iload1 70 dX11_place_69 rfl ?_
    refine j_vi1f 73 dX11_place_70 rfl rfl cl_X11_149 rfl rfl (c_isDust_18 _ h hh) ?_
    refine j_if_eq_bz 87 76 dX11_place_73 rfl rfl (fun h73 => ?_) (fun h73 => ?_)
    · first | exact tail _ (by rw [plD_t h73]; exact TR_hf (r := 4) u1 hh (by decide)) ((s1.up (by decide)).up (by decide)) | exact tail _ (by rw [e3] at h73; rw [plD_n (w.hw hh) h73]; exact u1) (s1.up (by decide))
    · rw [e3] at h73
      refine j_aload0 77 dX11_place_76 rfl ?_
      refine j_getR 80 dX11_place_77 rfl fl_X11_39 rfl rfl ?_
      refine j_getR 83 dX11_place_80 rfl fl_X11_139 rfl rfl ?_
      refine j_iload1 84 dX11_place_83 rfl ?_
      refine j_iload6 86 dX11_place_84 rfl ?_
      refine j_iast 87 _ rfl hh dX11_place_86 rfl rfl ?_
      first | exact tail _ (by rw [plD_t h73]; exact TR_hf (r := 4) u1 hh (by decide)) ((s1.up (by decide)).up (by decide)) | exact tail _ (by rw [e3] at h73; rw [plD_n (w.hw hh) h73]; exact u1) (s1.up (by decide))
set_option maxRecDepth 100000 in
theorem lm_place {Q : Option Value → Mem → Prop} (d a0 : Nat → Int32) (w : WF d) (hd : nb (d 1) 10000) (h n : Nat) (hh : h < 8) (hn : n ≤ 30) (v : Int32) (m0 : Mem) (h71 : m0 71 = rst d a0) (V : Nat → Int32) (hV : ∀ i, V i = hf (itD n (plD d h (nI i))) h 5) (kk : ∀ m', m' 69 = d → Sm [69, 73, 75] m0 m' → Q (some (.int (if v = 0 then scI V 0 (-1) 0 16 else scV V 0 (-1) 16))) m') : ∀ (k j : Nat) (m : Mem) (o : Option Value), j + k = 16 → m 69 = d → Sm [69, 73, 75] m0 m → J l g 7 mX12_place 49 [some (rf g 68), some (.int (nI h)), some (.int (nI n)), some (.int v), some (.int (scI V 0 (-1) 0 j)), some (.int (scV V 0 (-1) j)), some (.int (nI (0 + j))), o] [] m Q := by
  intro k
  induction k with
  | zero =>
    intro j m o e hm hs
    have e : j = 16 := by omega
    subst e
    have z := kk m hm hs
    refine j_iload6 51 dX12_place_49 rfl ?_
    refine j_bipush 53 (v := 16) dX12_place_51 rfl rfl ?_
    refine j_cmp_ge 117 56 dX12_place_53 rfl rfl (fun h53 => ?_) (fun h53 => absurd (by decide) h53)
    refine j_iload3 118 dX12_place_117 rfl ?_
    refine j_if_ne 126 121 dX12_place_118 rfl rfl (fun h118 => ?_) (fun h118 => ?_)
    · refine j_iload5 128 dX12_place_126 rfl ?_
      refine j_iret dX12_place_128 rfl ?_
      first | (rw [if_pos h118] at z; exact z) | (rw [if_neg h118] at z; exact z)
    · refine j_iload4 123 dX12_place_121 rfl ?_
      refine j_goto 128 dX12_place_123 rfl ?_
      refine j_iret dX12_place_128 rfl ?_
      first | (rw [if_pos h118] at z; exact z) | (rw [if_neg h118] at z; exact z)
  | succ k ih =>
    intro j m o e hm hs
    have e2 : nI (0 + j) + 1 = nI (0 + (j + 1)) := nI_1 (0 + j)
    have w1 := WF_pl w (h := h) (i := 0 + j) hh (by omega)
    have d1 : plD d h (nI (0 + j)) 1 = d 1 := plD_o (by omega) (by omega)
    have tail : ∀ m1, m1 69 = plD d h (nI (0 + j)) → Sm [69, 73, 75] m0 m1 → J l g 7 mX12_place 84 [some (rf g 68), some (.int (nI h)), some (.int (nI n)), some (.int v), some (.int (scI V 0 (-1) 0 j)), some (.int (scV V 0 (-1) j)), some (.int (nI (0 + j))), o] [] m1 Q := by
      intro m1 r69 s1
      refine j_aload0 85 dX12_place_84 rfl ?_
      refine j_iload2 86 dX12_place_85 rfl ?_
      refine j_iload1 87 dX12_place_86 rfl ?_
      refine j_iconst 88 (v := nI 5) dX12_place_87 rfl rfl ?_
      refine j_st2f 91 dX12_place_88 rfl rfl cl_X12_229 rfl (c_where _ h 5) ?_
      refine j_vi2s 94 dX12_place_91 rfl rfl cl_X12_232 rfl rfl (c_behind m1 n (40 + 6 * h + 5) (by omega) (by omega) (by rw [r69]; exact w1) (by rw [r69, d1]; exact nb_up hd (by decide))) (fun m91 q91 => ?_)
      have v1 : itD n (m1 69) (40 + 6 * h + 5) = V (0 + j) := by rw [r69]; exact (hV _).symm
      rw [v1]
      have z69 : m91 69 = d := by rw [q91.1, r69, s1 71 (by decide), h71]; exact rst_back (fun k hk => plD_o (by omega) (by omega))
      have s2 : Sm [69, 73, 75] m0 m91 := s1.trans q91.2
      refine j_istore7 96 dX12_place_94 rfl rfl rfl ?_
      refine j_iload7 98 dX12_place_96 rfl ?_
      refine j_iload5 100 dX12_place_98 rfl ?_
      refine j_cmp_le 111 103 dX12_place_100 rfl rfl (fun h100 => ?_) (fun h100 => ?_)
      · refine j_iinc6 114 (1) dX12_place_111 rfl rfl rfl rfl ?_
        refine j_goto 49 dX12_place_114 rfl ?_
        rw [e2]
        have ih1 := ih (j + 1) m91 (some (.int (V (0 + j)))) (by omega) z69 s2
        first | (rw [(sc_f (a := 0) (show V (0 + j) ≤ scV V 0 (-1) j from h100)).1, (sc_f (a := 0) (show V (0 + j) ≤ scV V 0 (-1) j from h100)).2] at ih1; exact ih1) | (rw [(sc_t (a := 0) (show ¬ V (0 + j) ≤ scV V 0 (-1) j from h100)).1, (sc_t (a := 0) (show ¬ V (0 + j) ≤ scV V 0 (-1) j from h100)).2] at ih1; exact ih1)
      · refine j_iload6 105 dX12_place_103 rfl ?_
        refine j_istore4 107 dX12_place_105 rfl rfl rfl ?_
        refine j_iload7 109 dX12_place_107 rfl ?_
        refine j_istore5 111 dX12_place_109 rfl rfl rfl ?_
        refine j_iinc6 114 (1) dX12_place_111 rfl rfl rfl rfl ?_
        refine j_goto 49 dX12_place_114 rfl ?_
        rw [e2]
        have ih1 := ih (j + 1) m91 (some (.int (V (0 + j)))) (by omega) z69 s2
        first | (rw [(sc_f (a := 0) (show V (0 + j) ≤ scV V 0 (-1) j from h100)).1, (sc_f (a := 0) (show V (0 + j) ≤ scV V 0 (-1) j from h100)).2] at ih1; exact ih1) | (rw [(sc_t (a := 0) (show ¬ V (0 + j) ≤ scV V 0 (-1) j from h100)).1, (sc_t (a := 0) (show ¬ V (0 + j) ≤ scV V 0 (-1) j from h100)).2] at ih1; exact ih1)
    have e3 : hf (up2 m 69 (40 + 6 * h + 2) (nI (0 + j)) 69) h 3 = hf d h 3 := by rw [← hm]; exact up2_k (by omega)
    refine j_iload6 51 dX12_place_49 rfl ?_
    refine j_bipush 53 (v := 16) dX12_place_51 rfl rfl ?_
    refine j_cmp_ge 117 56 dX12_place_53 rfl rfl (fun h53 => absurd h53 (nI_ge (a := 0 + j) (b := 16) (by omega) (by decide))) (fun h53 => ?_)
    refine j_aload0 57 dX12_place_56 rfl ?_
    refine j_iload1 58 dX12_place_57 rfl ?_
    refine j_iconst 59 (v := nI 2) dX12_place_58 rfl rfl ?_
    refine j_iload6 61 dX12_place_59 rfl ?_
    refine j_vi3v 64 dX12_place_61 rfl rfl cl_X12_164 rfl rfl (c_sets m h 2 (nI (0 + j)) hh (by decide)) ?_
    refine j_aload0 65 dX12_place_64 rfl ?_
    refine j_iload1 66 dX12_place_65 rfl ?_
    refine j_iconst 67 (v := nI 4) dX12_place_66 rfl rfl ?_
    refine j_aload0 68 dX12_place_67 rfl ?_
    refine j_iload1 69 dX12_place_68 rfl ?_
    refine j_vi1f 72 dX12_place_69 rfl rfl cl_X12_149 rfl rfl (c_misDust _ h hh) ?_
    refine j_if_eq_bz 80 75 dX12_place_72 rfl rfl (fun h72 => ?_) (fun h72 => ?_)
    · refine j_iconst 81 (v := -1) dX12_place_80 rfl rfl ?_
      refine j_vi3v 84 dX12_place_81 rfl rfl cl_X12_164 rfl rfl (c_sets _ h 4 _ hh (by decide)) ?_
      rw [e3] at h72
      first | exact tail _ (by rw [plD_t h72, up2_row69, up2_row69, hm]) ((hs.up (by decide)).up (by decide)) | exact tail _ (by unfold plD; rw [if_neg h72, up2_row69, up2_row69, hm]) ((hs.up (by decide)).up (by decide))
    · refine j_iload6 77 dX12_place_75 rfl ?_
      refine j_goto 81 dX12_place_77 rfl ?_
      refine j_vi3v 84 dX12_place_81 rfl rfl cl_X12_164 rfl rfl (c_sets _ h 4 _ hh (by decide)) ?_
      rw [e3] at h72
      first | exact tail _ (by rw [plD_t h72, up2_row69, up2_row69, hm]) ((hs.up (by decide)).up (by decide)) | exact tail _ (by unfold plD; rw [if_neg h72, up2_row69, up2_row69, hm]) ((hs.up (by decide)).up (by decide))
set_option maxRecDepth 100000 in
theorem e_place (m : Mem) (a b v : Int32) (c : ¬ ((0 ≤ a ∧ a < m 9 9 ∧ a < 8) ∧ (0 ≤ b ∧ b ≤ 30) ∧ (0 ≤ v ∧ v ≤ 1))) : JM l g 2 mX11_place [rf g 0, .int a, .int b, .int v] m (RF (some (.int (-1000000001))) (errC 1 m)) := by
  refine JM_of (ls := [some (rf g 0), some (.int a), some (.int b), some (.int v), none, none, none]) pn_X11 rfl rfl ?_
  refine j_aload0 1 dX11_place_0 rfl ?_
  refine j_iload1 2 dX11_place_1 rfl ?_
  refine j_vi1f 5 dX11_place_2 rfl rfl cl_X11_124 rfl rfl (c_isHeir m a) ?_
  refine j_if_eq_bz 27 8 dX11_place_5 rfl rfl (fun h5 => ?_) (fun h5 => ?_)
  · refine j_aload0 28 dX11_place_27 rfl ?_
    refine j_ldc 30 dX11_place_28 rfl kc_X11_81 ?_
    refine j_vi1f 33 dX11_place_30 rfl rfl cl_X11_82 rfl rfl (c_err1 m) ?_
    refine j_iret dX11_place_33 rfl ?_
    exact ⟨rfl, rfl⟩
  · refine j_iload2 9 dX11_place_8 rfl ?_
    refine j_iconst 10 (v := 0) dX11_place_9 rfl rfl ?_
    refine j_bipush 12 (v := 30) dX11_place_10 rfl rfl ?_
    refine j_st3f 15 dX11_place_12 rfl rfl cl_X11_86 rfl (c_within m b 0 30) ?_
    refine j_if_eq_bz 27 18 dX11_place_15 rfl rfl (fun h15 => ?_) (fun h15 => ?_)
    · refine j_aload0 28 dX11_place_27 rfl ?_
      refine j_ldc 30 dX11_place_28 rfl kc_X11_81 ?_
      refine j_vi1f 33 dX11_place_30 rfl rfl cl_X11_82 rfl rfl (c_err1 m) ?_
      refine j_iret dX11_place_33 rfl ?_
      exact ⟨rfl, rfl⟩
    · refine j_iload3 19 dX11_place_18 rfl ?_
      refine j_iconst 20 (v := 0) dX11_place_19 rfl rfl ?_
      refine j_iconst 21 (v := 1) dX11_place_20 rfl rfl ?_
      refine j_st3f 24 dX11_place_21 rfl rfl cl_X11_86 rfl (c_within m v 0 1) ?_
      refine j_if_ne_bz 34 27 dX11_place_24 rfl rfl (fun h24 => ?_) (fun h24 => ?_)
      · exact absurd ⟨h5, h15, h24⟩ c
      · refine j_aload0 28 dX11_place_27 rfl ?_
        refine j_ldc 30 dX11_place_28 rfl kc_X11_81 ?_
        refine j_vi1f 33 dX11_place_30 rfl rfl cl_X11_82 rfl rfl (c_err1 m) ?_
        refine j_iret dX11_place_33 rfl ?_
        exact ⟨rfl, rfl⟩
set_option maxRecDepth 100000 in
theorem f_place (m : Mem) (a b v : Int32) (c : ¬ ((0 ≤ a ∧ a ≤ m 69 0 - 1) ∧ (0 ≤ b ∧ b ≤ 30) ∧ (0 ≤ v ∧ v ≤ 1))) : JM l g 2 mX12_place [rf g 68, .int a, .int b, .int v] m (RF (some (.int (-1000000001))) (errM 1 m)) := by
  refine JM_of (ls := [some (rf g 68), some (.int a), some (.int b), some (.int v), none, none, none, none]) pn_X12 rfl rfl ?_
  refine j_aload0 1 dX12_place_0 rfl ?_
  refine j_iload1 2 dX12_place_1 rfl ?_
  refine j_vi1f 5 dX12_place_2 rfl rfl cl_X12_199 rfl rfl (c_misHeir m a) ?_
  refine j_if_eq_bz 30 8 dX12_place_5 rfl rfl (fun h5 => ?_) (fun h5 => ?_)
  · refine j_aload0 31 dX12_place_30 rfl ?_
    refine j_iconst 32 (v := 1) dX12_place_31 rfl rfl ?_
    refine j_vi1f 35 dX12_place_32 rfl rfl cl_X12_126 rfl rfl (c_finds1 m) ?_
    refine j_iret dX12_place_35 rfl ?_
    exact ⟨rfl, rfl⟩
  · refine j_iload2 9 dX12_place_8 rfl ?_
    refine j_i2l 10 dX12_place_9 rfl ?_
    refine j_lconst 11 (v := 0) dX12_place_10 rfl rfl ?_
    refine j_ldc2 14 dX12_place_11 rfl kl_X12_187 ?_
    refine j_st3f 17 dX12_place_14 rfl rfl cl_X12_47 rfl (c_in m b 0 30) ?_
    refine j_if_eq_bz 30 20 dX12_place_17 rfl rfl (fun h17 => ?_) (fun h17 => ?_)
    · refine j_aload0 31 dX12_place_30 rfl ?_
      refine j_iconst 32 (v := 1) dX12_place_31 rfl rfl ?_
      refine j_vi1f 35 dX12_place_32 rfl rfl cl_X12_126 rfl rfl (c_finds1 m) ?_
      refine j_iret dX12_place_35 rfl ?_
      exact ⟨rfl, rfl⟩
    · refine j_iload3 21 dX12_place_20 rfl ?_
      refine j_i2l 22 dX12_place_21 rfl ?_
      refine j_lconst 23 (v := 0) dX12_place_22 rfl rfl ?_
      refine j_lconst 24 (v := 1) dX12_place_23 rfl rfl ?_
      refine j_st3f 27 dX12_place_24 rfl rfl cl_X12_47 rfl (c_in m v 0 1) ?_
      refine j_if_ne_bz 36 30 dX12_place_27 rfl rfl (fun h27 => ?_) (fun h27 => ?_)
      · exact absurd ⟨h5, h17, h27⟩ c
      · refine j_aload0 31 dX12_place_30 rfl ?_
        refine j_iconst 32 (v := 1) dX12_place_31 rfl rfl ?_
        refine j_vi1f 35 dX12_place_32 rfl rfl cl_X12_126 rfl rfl (c_finds1 m) ?_
        refine j_iret dX12_place_35 rfl ?_
        exact ⟨rfl, rfl⟩
set_option maxRecDepth 100000 in
theorem o_place (m : Mem) (d : Nat → Int32) (w : WF d) (hT : TR 9 m d) (hP : PR 36 m d) (h n : Nat) (v : Int32) (hh : h < 8) (hn : n ≤ 30) (h1 : 0 ≤ nI h ∧ nI h < m 9 9 ∧ nI h < 8) (h3 : 0 ≤ v ∧ v ≤ 1) : JM l g 6 mX11_place [rf g 0, .int (nI h), .int (nI n), .int v] m (RS (some (.int (if v = 0 then scI (fun i => hf (itD n (plD d h (nI i))) h 5) 0 (-1) 0 16 else scV (fun i => hf (itD n (plD d h (nI i))) h 5) 0 (-1) 16))) (Sm thS m)) := by
  refine JM_of (ls := [some (rf g 0), some (.int (nI h)), some (.int (nI n)), some (.int v), none, none, none]) pn_X11 rfl rfl ?_
  refine j_aload0 1 dX11_place_0 rfl ?_
  refine j_iload1 2 dX11_place_1 rfl ?_
  refine j_vi1f 5 dX11_place_2 rfl rfl cl_X11_124 rfl rfl (c_isHeir m _) ?_
  refine j_if_eq_bz 27 8 dX11_place_5 rfl rfl (fun h5 => absurd h1 h5) (fun h5 => ?_)
  refine j_iload2 9 dX11_place_8 rfl ?_
  refine j_iconst 10 (v := 0) dX11_place_9 rfl rfl ?_
  refine j_bipush 12 (v := 30) dX11_place_10 rfl rfl ?_
  refine j_st3f 15 dX11_place_12 rfl rfl cl_X11_86 rfl (c_within m _ 0 30) ?_
  refine j_if_eq_bz 27 18 dX11_place_15 rfl rfl (fun h15 => absurd ((rngN 30 (by decide)).mpr ⟨n, hn, rfl⟩) h15) (fun h15 => ?_)
  refine j_iload3 19 dX11_place_18 rfl ?_
  refine j_iconst 20 (v := 0) dX11_place_19 rfl rfl ?_
  refine j_iconst 21 (v := 1) dX11_place_20 rfl rfl ?_
  refine j_st3f 24 dX11_place_21 rfl rfl cl_X11_86 rfl (c_within m _ 0 1) ?_
  refine j_if_ne_bz 34 27 dX11_place_24 rfl rfl (fun h24 => ?_) (fun h24 => absurd h3 h24)
  refine j_iconst 35 (v := 0) dX11_place_34 rfl rfl ?_
  refine j_istore4 37 dX11_place_35 rfl rfl rfl ?_
  refine j_iconst 38 (v := -1) dX11_place_37 rfl rfl ?_
  refine j_istore5 40 dX11_place_38 rfl rfl rfl ?_
  refine j_iconst 41 (v := 0) dX11_place_40 rfl rfl ?_
  refine j_istore6 43 dX11_place_41 rfl rfl rfl ?_
  exact lp_place d w h n hh hn v m hT hP (fun i => hf (itD n (plD d h (nI i))) h 5) (fun _ => rfl) (fun m' s => ⟨rfl, s⟩) 16 0 m rfl Sm.rf
set_option maxRecDepth 100000 in
theorem p_place (m : Mem) (w : WF (m 69)) (hd : nb (m 69 1) 10000) (h n : Nat) (v : Int32) (hh : h < 8) (hn : n ≤ 30) (h1 : 0 ≤ nI h ∧ nI h ≤ m 69 0 - 1) (h3 : 0 ≤ v ∧ v ≤ 1) : JM l g 7 mX12_place [rf g 68, .int (nI h), .int (nI n), .int v] m (RS (some (.int (if v = 0 then scI (fun i => hf (itD n (plD (m 69) h (nI i))) h 5) 0 (-1) 0 16 else scV (fun i => hf (itD n (plD (m 69) h (nI i))) h 5) 0 (-1) 16))) (MK m)) := by
  refine JM_of (ls := [some (rf g 68), some (.int (nI h)), some (.int (nI n)), some (.int v), none, none, none, none]) pn_X12 rfl rfl ?_
  refine j_aload0 1 dX12_place_0 rfl ?_
  refine j_iload1 2 dX12_place_1 rfl ?_
  refine j_vi1f 5 dX12_place_2 rfl rfl cl_X12_199 rfl rfl (c_misHeir m _) ?_
  refine j_if_eq_bz 30 8 dX12_place_5 rfl rfl (fun h5 => absurd h1 h5) (fun h5 => ?_)
  refine j_iload2 9 dX12_place_8 rfl ?_
  refine j_i2l 10 dX12_place_9 rfl ?_
  refine j_lconst 11 (v := 0) dX12_place_10 rfl rfl ?_
  refine j_ldc2 14 dX12_place_11 rfl kl_X12_187 ?_
  refine j_st3f 17 dX12_place_14 rfl rfl cl_X12_47 rfl (c_in m _ 0 30) ?_
  refine j_if_eq_bz 30 20 dX12_place_17 rfl rfl (fun h17 => absurd ((rngN 30 (by decide)).mpr ⟨n, hn, rfl⟩) h17) (fun h17 => ?_)
  refine j_iload3 21 dX12_place_20 rfl ?_
  refine j_i2l 22 dX12_place_21 rfl ?_
  refine j_lconst 23 (v := 0) dX12_place_22 rfl rfl ?_
  refine j_lconst 24 (v := 1) dX12_place_23 rfl rfl ?_
  refine j_st3f 27 dX12_place_24 rfl rfl cl_X12_47 rfl (c_in m _ 0 1) ?_
  refine j_if_ne_bz 36 30 dX12_place_27 rfl rfl (fun h27 => ?_) (fun h27 => absurd h3 h27)
  refine j_aload0 37 dX12_place_36 rfl ?_
  refine j_vi0v 40 dX12_place_37 rfl rfl cl_X12_226 rfl rfl (c_keepAside m) ?_
  refine j_iconst 41 (v := 0) dX12_place_40 rfl rfl ?_
  refine j_istore4 43 dX12_place_41 rfl rfl rfl ?_
  refine j_iconst 44 (v := -1) dX12_place_43 rfl rfl ?_
  refine j_istore5 46 dX12_place_44 rfl rfl rfl ?_
  refine j_iconst 47 (v := 0) dX12_place_46 rfl rfl ?_
  refine j_istore6 49 dX12_place_47 rfl rfl rfl ?_
  exact lm_place (m 69) (m 71) w hd h n hh hn v _ upR_s (fun i => hf (itD n (plD (m 69) h (nI i))) h 5) (fun _ => rfl) (fun m' r s => ⟨rfl, r, (Sm.rf.row (by decide)).trans (s.mono (by decide))⟩) 16 0 _ none rfl (upR_n (by decide)) Sm.rf
theorem op_place {m : Mem} (I : INV m) (a b v : Int32) : OPr l g mX11_place mX12_place [.int a, .int b, .int v] m := by
  obtain ⟨⟨wf, hd, hT, hP⟩, -⟩ := id I
  by_cases c : (0 ≤ a ∧ a < m 69 0 ∧ a < 8) ∧ (0 ≤ b ∧ b ≤ 30) ∧ (0 ≤ v ∧ v ≤ 1)
  · obtain ⟨h1, h2, h3⟩ := c
    obtain ⟨i, hi, rfl⟩ := (isH_c wf).mp h1
    obtain ⟨n, hn, rfl⟩ := (rngN 30 (by decide)).mp h2
    have n8 := wf.n.1
    have hh : i < 8 := by omega
    refine OPr_ask (d2 := 7) I (by decide) (by decide) (o_place m (m 69) wf hT hP i n v hh hn (by rw [hT.1]; exact h1) h3) (fun m' s => ?_)
    have e := dn s
    have hq := p_place (l := l) (g := g) m' (by rw [e]; exact wf) (by rw [e]; exact hd) i n v hh hn (by rw [e]; exact (isH_m wf).mpr ⟨i, hi, rfl⟩) h3
    rw [e] at hq
    exact hq
  · exact OPr_err I (by decide) (by decide) (by decide) (e_place m a b v (by rw [hT.1]; exact c)) (f_place _ a b v (fun q => c ⟨(isH_c wf).mpr ((isH_m wf).mp (by have := q.1; rw [errC_o (by decide)] at this; exact this)), q.2⟩))
set_option maxRecDepth 100000 in
theorem lp_stop {Q : Option Value → Mem → Prop} (d : Nat → Int32) (w : WF d) (h n : Nat) (hh : h < 8) (hn : n ≤ 20) (m0 : Mem) (hT0 : TR 9 m0 d) (hP : PR 36 m0 d) (V : Nat → Int32) (b : Int32) (hV : ∀ i, V i = hf (itD n (upd1 d (24 + i) (nI i))) h 5) (kk : ∀ m', Sm thS m0 m' → Q (some (.int (scI V 0 b (-1) 16))) m') : ∀ (k j : Nat) (m : Mem), j + k = 16 → Sm thS m0 m → J l g 6 mX11_stop 57 [some (rf g 0), some (.int (nI h)), some (.int (nI n)), some (.int (scV V 0 b j)), some (.int (scI V 0 b (-1) j)), some (.int (nI (0 + j)))] [] m Q := by
  intro k
  induction k with
  | zero =>
    intro j m e hs
    have e : j = 16 := by omega
    subst e
    refine j_iload5 59 dX11_stop_57 rfl ?_
    refine j_bipush 61 (v := 16) dX11_stop_59 rfl rfl ?_
    refine j_cmp_ge 125 64 dX11_stop_61 rfl rfl (fun h61 => ?_) (fun h61 => absurd (by decide) h61)
    refine j_iload4 127 dX11_stop_125 rfl ?_
    refine j_iret dX11_stop_127 rfl ?_
    exact kk m hs
  | succ k ih =>
    intro j m e hs
    have e2 : nI (0 + j) + 1 = nI (0 + (j + 1)) := nI_1 (0 + j)
    have w1 := WF_stop w (i := 0 + j) (by omega)
    have hj : 0 + j < 16 := by omega
    have oe : ∀ k, 88 ≤ k → upd1 d (24 + (0 + j)) (nI (0 + j)) k = d k := fun k hk => if_neg (by omega)
    refine j_iload5 59 dX11_stop_57 rfl ?_
    refine j_bipush 61 (v := 16) dX11_stop_59 rfl rfl ?_
    refine j_cmp_ge 125 64 dX11_stop_61 rfl rfl (fun h61 => absurd h61 (nI_ge (a := 0 + j) (b := 16) (by omega) (by decide))) (fun h61 => ?_)
    refine j_aload0 65 dX11_stop_64 rfl ?_
    refine j_vi0w 68 dX11_stop_65 rfl rfl cl_X11_217 rfl rfl (c_think m) (fun m65 q65 => ?_)
    have s1 : Sm thS m0 m65 := hs.trans (q65.2.mono (by decide))
    obtain ⟨l0, l1⟩ := LR2 hP (s1 39 (by decide)) (s1 40 (by decide)) (s1 43 (by decide)) (s1 44 (by decide))
    refine j_aload0 69 dX11_stop_68 rfl ?_
    refine j_getR 72 dX11_stop_69 rfl fl_X11_39 rfl rfl ?_
    refine j_getR 75 dX11_stop_72 rfl fl_X11_93 rfl rfl ?_
    refine j_iload5 77 dX11_stop_75 rfl ?_
    refine j_iload5 79 dX11_stop_77 rfl ?_
    refine j_iast 80 _ rfl hj dX11_stop_79 rfl rfl ?_
    refine j_aload0 81 dX11_stop_80 rfl ?_
    refine j_getR 84 dX11_stop_81 rfl fl_X11_39 rfl rfl ?_
    refine j_iload2 85 dX11_stop_84 rfl ?_
    refine j_aload0 86 dX11_stop_85 rfl ?_
    refine j_getR 89 dX11_stop_86 rfl fl_X11_48 rfl rfl ?_
    refine j_vi2w 92 dX11_stop_89 rfl rfl cl_X11_205 rfl rfl (c_goDays_18 (up2 m65 20 (0 + j) (nI (0 + j))) (upd1 d (24 + (0 + j)) (nI (0 + j))) n (by omega) w1 (TR_to (q65.1 d (thT hs hT0)) hj) (LR_congr (by decide) l0 (up2_r (by decide)) (up2_r (by decide)) oe) (LR_congr (by decide) l1 (up2_r (by decide)) (up2_r (by decide)) oe)) (fun m89 q89 => ?_)
    have v1 : m89 26 h = V (0 + j) := (q89.1.2.2.2.2.2.2.2 h hh 5 (by decide)).trans (hV _).symm
    refine j_aload0 93 dX11_stop_92 rfl ?_
    refine j_getR 96 dX11_stop_93 rfl fl_X11_39 rfl rfl ?_
    refine j_getR 99 dX11_stop_96 rfl fl_X11_142 rfl rfl ?_
    refine j_iload1 100 dX11_stop_99 rfl ?_
    refine j_iald 101 _ rfl hh dX11_stop_100 rfl rfl ?_
    refine j_iload3 102 dX11_stop_101 rfl ?_
    refine j_cmp_le 119 105 dX11_stop_102 rfl rfl (fun h102 => ?_) (fun h102 => ?_)
    · refine j_iinc5 122 (1) dX11_stop_119 rfl rfl rfl rfl ?_
      refine j_goto 57 dX11_stop_122 rfl ?_
      rw [e2]
      rw [v1] at h102
      have s2 : Sm thS m0 m89 := (s1.up (by decide)).trans (q89.2.mono (by decide))
      have ih1 := ih (j + 1) m89 (by omega) s2
      first | (rw [(sc_f (a := -1) (show V (0 + j) ≤ scV V 0 b j from h102)).1, (sc_f (a := -1) (show V (0 + j) ≤ scV V 0 b j from h102)).2] at ih1; exact ih1) | (rw [(sc_t (a := -1) (show ¬ V (0 + j) ≤ scV V 0 b j from h102)).1, (sc_t (a := -1) (show ¬ V (0 + j) ≤ scV V 0 b j from h102)).2] at ih1; rw [v1]; exact ih1)
    · refine j_aload0 106 dX11_stop_105 rfl ?_
      refine j_getR 109 dX11_stop_106 rfl fl_X11_39 rfl rfl ?_
      refine j_getR 112 dX11_stop_109 rfl fl_X11_142 rfl rfl ?_
      refine j_iload1 113 dX11_stop_112 rfl ?_
      refine j_iald 114 _ rfl hh dX11_stop_113 rfl rfl ?_
      refine j_istore3 115 dX11_stop_114 rfl rfl rfl ?_
      refine j_iload5 117 dX11_stop_115 rfl ?_
      refine j_istore4 119 dX11_stop_117 rfl rfl rfl ?_
      refine j_iinc5 122 (1) dX11_stop_119 rfl rfl rfl rfl ?_
      refine j_goto 57 dX11_stop_122 rfl ?_
      rw [e2]
      rw [v1] at h102
      have s2 : Sm thS m0 m89 := (s1.up (by decide)).trans (q89.2.mono (by decide))
      have ih1 := ih (j + 1) m89 (by omega) s2
      first | (rw [(sc_f (a := -1) (show V (0 + j) ≤ scV V 0 b j from h102)).1, (sc_f (a := -1) (show V (0 + j) ≤ scV V 0 b j from h102)).2] at ih1; exact ih1) | (rw [(sc_t (a := -1) (show ¬ V (0 + j) ≤ scV V 0 b j from h102)).1, (sc_t (a := -1) (show ¬ V (0 + j) ≤ scV V 0 b j from h102)).2] at ih1; rw [v1]; exact ih1)
set_option maxRecDepth 100000 in
theorem lm_stop {Q : Option Value → Mem → Prop} (d a0 : Nat → Int32) (w : WF d) (hd : nb (d 1) 10000) (h n : Nat) (hh : h < 8) (hn : n ≤ 20) (m0 : Mem) (h71 : m0 71 = rst d a0) (V : Nat → Int32) (b : Int32) (hV : ∀ i, V i = hf (itD n (upd1 d (24 + i) (nI i))) h 5) (kk : ∀ m', m' 69 = d → Sm [69, 73, 75] m0 m' → Q (some (.int (scI V 0 b (-1) 16))) m') : ∀ (k j : Nat) (m : Mem) (o : Option Value), j + k = 16 → m 69 = d → Sm [69, 73, 75] m0 m → J l g 7 mX12_stop 47 [some (rf g 68), some (.int (nI h)), some (.int (nI n)), some (.int (scV V 0 b j)), some (.int (scI V 0 b (-1) j)), some (.int (nI (0 + j))), o] [] m Q := by
  intro k
  induction k with
  | zero =>
    intro j m o e hm hs
    have e : j = 16 := by omega
    subst e
    refine j_iload5 49 dX12_stop_47 rfl ?_
    refine j_bipush 51 (v := 16) dX12_stop_49 rfl rfl ?_
    refine j_cmp_ge 97 54 dX12_stop_51 rfl rfl (fun h51 => ?_) (fun h51 => absurd (by decide) h51)
    refine j_iload4 99 dX12_stop_97 rfl ?_
    refine j_iret dX12_stop_99 rfl ?_
    exact kk m hm hs
  | succ k ih =>
    intro j m o e hm hs
    have e2 : nI (0 + j) + 1 = nI (0 + (j + 1)) := nI_1 (0 + j)
    have r69 : up2 m 69 (24 + (0 + j)) (nI (0 + j)) 69 = upd1 d (24 + (0 + j)) (nI (0 + j)) := by rw [up2_row69, hm]
    have w1 := WF_stop w (i := 0 + j) (by omega)
    have d1 : upd1 d (24 + (0 + j)) (nI (0 + j)) 1 = d 1 := if_neg (by omega)
    have hj : 24 + (0 + j) < 260 := by omega
    refine j_iload5 49 dX12_stop_47 rfl ?_
    refine j_bipush 51 (v := 16) dX12_stop_49 rfl rfl ?_
    refine j_cmp_ge 97 54 dX12_stop_51 rfl rfl (fun h51 => absurd h51 (nI_ge (a := 0 + j) (b := 16) (by omega) (by decide))) (fun h51 => ?_)
    refine j_aload0 55 dX12_stop_54 rfl ?_
    refine j_getR 58 dX12_stop_55 rfl fl_X12_7 rfl rfl ?_
    refine j_bipush 60 (v := nI 24) dX12_stop_58 rfl rfl ?_
    refine j_iload5 62 dX12_stop_60 rfl ?_
    refine j_iaddN 63 dX12_stop_62 rfl ?_
    refine j_iload5 65 dX12_stop_63 rfl ?_
    refine j_iast 66 (24 + (0 + j)) rfl hj dX12_stop_65 rfl rfl ?_
    refine j_aload0 67 dX12_stop_66 rfl ?_
    refine j_iload2 68 dX12_stop_67 rfl ?_
    refine j_iload1 69 dX12_stop_68 rfl ?_
    refine j_iconst 70 (v := nI 5) dX12_stop_69 rfl rfl ?_
    refine j_st2f 73 dX12_stop_70 rfl rfl cl_X12_229 rfl (c_where _ h 5) ?_
    refine j_vi2s 76 dX12_stop_73 rfl rfl cl_X12_232 rfl rfl (c_behind (up2 m 69 (24 + (0 + j)) (nI (0 + j))) n (40 + 6 * h + 5) (by omega) (by omega) (by rw [r69]; exact w1) (by rw [r69, d1]; exact nb_up hd (by decide))) (fun m73 q73 => ?_)
    have v1 : itD n (up2 m 69 (24 + (0 + j)) (nI (0 + j)) 69) (40 + 6 * h + 5) = V (0 + j) := by rw [r69]; exact (hV _).symm
    rw [v1]
    have z69 : m73 69 = d := by rw [q73.1, r69, up2_r (by decide), hs 71 (by decide), h71]; exact rst_back (fun k hk => if_neg (by omega))
    have s2 : Sm [69, 73, 75] m0 m73 := (hs.up (by decide)).trans q73.2
    refine j_istore6 78 dX12_stop_76 rfl rfl rfl ?_
    refine j_iload6 80 dX12_stop_78 rfl ?_
    refine j_iload3 81 dX12_stop_80 rfl ?_
    refine j_cmp_le 91 84 dX12_stop_81 rfl rfl (fun h81 => ?_) (fun h81 => ?_)
    · refine j_iinc5 94 (1) dX12_stop_91 rfl rfl rfl rfl ?_
      refine j_goto 47 dX12_stop_94 rfl ?_
      rw [e2]
      have ih1 := ih (j + 1) m73 (some (.int (V (0 + j)))) (by omega) z69 s2
      first | (rw [(sc_f (a := -1) (show V (0 + j) ≤ scV V 0 b j from h81)).1, (sc_f (a := -1) (show V (0 + j) ≤ scV V 0 b j from h81)).2] at ih1; exact ih1) | (rw [(sc_t (a := -1) (show ¬ V (0 + j) ≤ scV V 0 b j from h81)).1, (sc_t (a := -1) (show ¬ V (0 + j) ≤ scV V 0 b j from h81)).2] at ih1; exact ih1)
    · refine j_iload5 86 dX12_stop_84 rfl ?_
      refine j_istore4 88 dX12_stop_86 rfl rfl rfl ?_
      refine j_iload6 90 dX12_stop_88 rfl ?_
      refine j_istore3 91 dX12_stop_90 rfl rfl rfl ?_
      refine j_iinc5 94 (1) dX12_stop_91 rfl rfl rfl rfl ?_
      refine j_goto 47 dX12_stop_94 rfl ?_
      rw [e2]
      have ih1 := ih (j + 1) m73 (some (.int (V (0 + j)))) (by omega) z69 s2
      first | (rw [(sc_f (a := -1) (show V (0 + j) ≤ scV V 0 b j from h81)).1, (sc_f (a := -1) (show V (0 + j) ≤ scV V 0 b j from h81)).2] at ih1; exact ih1) | (rw [(sc_t (a := -1) (show ¬ V (0 + j) ≤ scV V 0 b j from h81)).1, (sc_t (a := -1) (show ¬ V (0 + j) ≤ scV V 0 b j from h81)).2] at ih1; exact ih1)
set_option maxRecDepth 100000 in
theorem e_stop (m : Mem) (a b : Int32) (c : ¬ ((0 ≤ a ∧ a < m 9 9 ∧ a < 8) ∧ (0 ≤ b ∧ b ≤ 20))) : JM l g 2 mX11_stop [rf g 0, .int a, .int b] m (RF (some (.int (-1000000001))) (errC 1 m)) := by
  refine JM_of (ls := [some (rf g 0), some (.int a), some (.int b), none, none, none]) pn_X11 rfl rfl ?_
  refine j_aload0 1 dX11_stop_0 rfl ?_
  refine j_iload1 2 dX11_stop_1 rfl ?_
  refine j_vi1f 5 dX11_stop_2 rfl rfl cl_X11_124 rfl rfl (c_isHeir m a) ?_
  refine j_if_eq_bz 18 8 dX11_stop_5 rfl rfl (fun h5 => ?_) (fun h5 => ?_)
  · refine j_aload0 19 dX11_stop_18 rfl ?_
    refine j_ldc 21 dX11_stop_19 rfl kc_X11_81 ?_
    refine j_vi1f 24 dX11_stop_21 rfl rfl cl_X11_82 rfl rfl (c_err1 m) ?_
    refine j_iret dX11_stop_24 rfl ?_
    exact ⟨rfl, rfl⟩
  · refine j_iload2 9 dX11_stop_8 rfl ?_
    refine j_iconst 10 (v := 0) dX11_stop_9 rfl rfl ?_
    refine j_bipush 12 (v := 20) dX11_stop_10 rfl rfl ?_
    refine j_st3f 15 dX11_stop_12 rfl rfl cl_X11_86 rfl (c_within m b 0 20) ?_
    refine j_if_ne_bz 25 18 dX11_stop_15 rfl rfl (fun h15 => ?_) (fun h15 => ?_)
    · exact absurd ⟨h5, h15⟩ c
    · refine j_aload0 19 dX11_stop_18 rfl ?_
      refine j_ldc 21 dX11_stop_19 rfl kc_X11_81 ?_
      refine j_vi1f 24 dX11_stop_21 rfl rfl cl_X11_82 rfl rfl (c_err1 m) ?_
      refine j_iret dX11_stop_24 rfl ?_
      exact ⟨rfl, rfl⟩
set_option maxRecDepth 100000 in
theorem f_stop (m : Mem) (a b : Int32) (c : ¬ ((0 ≤ a ∧ a ≤ m 69 0 - 1) ∧ (0 ≤ b ∧ b ≤ 20))) : JM l g 2 mX12_stop [rf g 68, .int a, .int b] m (RF (some (.int (-1000000001))) (errM 1 m)) := by
  refine JM_of (ls := [some (rf g 68), some (.int a), some (.int b), none, none, none, none]) pn_X12 rfl rfl ?_
  refine j_aload0 1 dX12_stop_0 rfl ?_
  refine j_iload1 2 dX12_stop_1 rfl ?_
  refine j_vi1f 5 dX12_stop_2 rfl rfl cl_X12_199 rfl rfl (c_misHeir m a) ?_
  refine j_if_eq_bz 20 8 dX12_stop_5 rfl rfl (fun h5 => ?_) (fun h5 => ?_)
  · refine j_aload0 21 dX12_stop_20 rfl ?_
    refine j_iconst 22 (v := 1) dX12_stop_21 rfl rfl ?_
    refine j_vi1f 25 dX12_stop_22 rfl rfl cl_X12_126 rfl rfl (c_finds1 m) ?_
    refine j_iret dX12_stop_25 rfl ?_
    exact ⟨rfl, rfl⟩
  · refine j_iload2 9 dX12_stop_8 rfl ?_
    refine j_i2l 10 dX12_stop_9 rfl ?_
    refine j_lconst 11 (v := 0) dX12_stop_10 rfl rfl ?_
    refine j_ldc2 14 dX12_stop_11 rfl kl_X12_241 ?_
    refine j_st3f 17 dX12_stop_14 rfl rfl cl_X12_47 rfl (c_in m b 0 20) ?_
    refine j_if_ne_bz 26 20 dX12_stop_17 rfl rfl (fun h17 => ?_) (fun h17 => ?_)
    · exact absurd ⟨h5, h17⟩ c
    · refine j_aload0 21 dX12_stop_20 rfl ?_
      refine j_iconst 22 (v := 1) dX12_stop_21 rfl rfl ?_
      refine j_vi1f 25 dX12_stop_22 rfl rfl cl_X12_126 rfl rfl (c_finds1 m) ?_
      refine j_iret dX12_stop_25 rfl ?_
      exact ⟨rfl, rfl⟩
set_option maxRecDepth 100000 in
theorem o_stop (m : Mem) (d : Nat → Int32) (w : WF d) (hT : TR 9 m d) (hP : PR 36 m d) (h n : Nat) (hh : h < 8) (hn : n ≤ 20) (h1 : 0 ≤ nI h ∧ nI h < m 9 9 ∧ nI h < 8) : JM l g 6 mX11_stop [rf g 0, .int (nI h), .int (nI n)] m (RS (some (.int (scI (fun i => hf (itD n (upd1 d (24 + i) (nI i))) h 5) 0 (hf (itD n d) h 5) (-1) 16))) (Sm thS m)) := by
  refine JM_of (ls := [some (rf g 0), some (.int (nI h)), some (.int (nI n)), none, none, none]) pn_X11 rfl rfl ?_
  refine j_aload0 1 dX11_stop_0 rfl ?_
  refine j_iload1 2 dX11_stop_1 rfl ?_
  refine j_vi1f 5 dX11_stop_2 rfl rfl cl_X11_124 rfl rfl (c_isHeir m _) ?_
  refine j_if_eq_bz 18 8 dX11_stop_5 rfl rfl (fun h5 => absurd h1 h5) (fun h5 => ?_)
  refine j_iload2 9 dX11_stop_8 rfl ?_
  refine j_iconst 10 (v := 0) dX11_stop_9 rfl rfl ?_
  refine j_bipush 12 (v := 20) dX11_stop_10 rfl rfl ?_
  refine j_st3f 15 dX11_stop_12 rfl rfl cl_X11_86 rfl (c_within m _ 0 20) ?_
  refine j_if_ne_bz 25 18 dX11_stop_15 rfl rfl (fun h15 => ?_) (fun h15 => absurd ((rngN 20 (by decide)).mpr ⟨n, hn, rfl⟩) h15)
  refine j_aload0 26 dX11_stop_25 rfl ?_
  refine j_vi0w 29 dX11_stop_26 rfl rfl cl_X11_217 rfl rfl (c_think m) (fun m26 q26 => ?_)
  obtain ⟨l0, l1⟩ := LR2 hP (q26.2 39 (by decide)) (q26.2 40 (by decide)) (q26.2 43 (by decide)) (q26.2 44 (by decide))
  refine j_aload0 30 dX11_stop_29 rfl ?_
  refine j_getR 33 dX11_stop_30 rfl fl_X11_39 rfl rfl ?_
  refine j_iload2 34 dX11_stop_33 rfl ?_
  refine j_aload0 35 dX11_stop_34 rfl ?_
  refine j_getR 38 dX11_stop_35 rfl fl_X11_48 rfl rfl ?_
  refine j_vi2w 41 dX11_stop_38 rfl rfl cl_X11_205 rfl rfl (c_goDays_18 m26 d n (by omega) w (q26.1 d hT) l0 l1) (fun m38 q38 => ?_)
  refine j_aload0 42 dX11_stop_41 rfl ?_
  refine j_getR 45 dX11_stop_42 rfl fl_X11_39 rfl rfl ?_
  refine j_getR 48 dX11_stop_45 rfl fl_X11_142 rfl rfl ?_
  refine j_iload1 49 dX11_stop_48 rfl ?_
  refine j_iald 50 _ rfl hh dX11_stop_49 rfl rfl ?_
  refine j_top (q38.1.2.2.2.2.2.2.2 h hh 5 (by decide)) ?_
  refine j_istore3 51 dX11_stop_50 rfl rfl rfl ?_
  refine j_iconst 52 (v := -1) dX11_stop_51 rfl rfl ?_
  refine j_istore4 54 dX11_stop_52 rfl rfl rfl ?_
  refine j_iconst 55 (v := 0) dX11_stop_54 rfl rfl ?_
  refine j_istore5 57 dX11_stop_55 rfl rfl rfl ?_
  exact lp_stop d w h n hh hn m hT hP (fun i => hf (itD n (upd1 d (24 + i) (nI i))) h 5) _ (fun _ => rfl) (fun m' s => ⟨rfl, s⟩) 16 0 m38 rfl ((q26.2.mono (by decide)).trans (q38.2.mono (by decide)))
set_option maxRecDepth 100000 in
theorem p_stop (m : Mem) (w : WF (m 69)) (hd : nb (m 69 1) 10000) (h n : Nat) (hh : h < 8) (hn : n ≤ 20) (h1 : 0 ≤ nI h ∧ nI h ≤ m 69 0 - 1) : JM l g 7 mX12_stop [rf g 68, .int (nI h), .int (nI n)] m (RS (some (.int (scI (fun i => hf (itD n (upd1 (m 69) (24 + i) (nI i))) h 5) 0 (hf (itD n (m 69)) h 5) (-1) 16))) (MK m)) := by
  refine JM_of (ls := [some (rf g 68), some (.int (nI h)), some (.int (nI n)), none, none, none, none]) pn_X12 rfl rfl ?_
  refine j_aload0 1 dX12_stop_0 rfl ?_
  refine j_iload1 2 dX12_stop_1 rfl ?_
  refine j_vi1f 5 dX12_stop_2 rfl rfl cl_X12_199 rfl rfl (c_misHeir m _) ?_
  refine j_if_eq_bz 20 8 dX12_stop_5 rfl rfl (fun h5 => absurd h1 h5) (fun h5 => ?_)
  refine j_iload2 9 dX12_stop_8 rfl ?_
  refine j_i2l 10 dX12_stop_9 rfl ?_
  refine j_lconst 11 (v := 0) dX12_stop_10 rfl rfl ?_
  refine j_ldc2 14 dX12_stop_11 rfl kl_X12_241 ?_
  refine j_st3f 17 dX12_stop_14 rfl rfl cl_X12_47 rfl (c_in m _ 0 20) ?_
  refine j_if_ne_bz 26 20 dX12_stop_17 rfl rfl (fun h17 => ?_) (fun h17 => absurd ((rngN 20 (by decide)).mpr ⟨n, hn, rfl⟩) h17)
  refine j_aload0 27 dX12_stop_26 rfl ?_
  refine j_vi0v 30 dX12_stop_27 rfl rfl cl_X12_226 rfl rfl (c_keepAside m) ?_
  have r0 : upR m 71 (rst (m 69) (m 71)) 69 = m 69 := upR_n (by decide)
  refine j_aload0 31 dX12_stop_30 rfl ?_
  refine j_iload2 32 dX12_stop_31 rfl ?_
  refine j_iload1 33 dX12_stop_32 rfl ?_
  refine j_iconst 34 (v := nI 5) dX12_stop_33 rfl rfl ?_
  refine j_st2f 37 dX12_stop_34 rfl rfl cl_X12_229 rfl (c_where _ h 5) ?_
  refine j_vi2s 40 dX12_stop_37 rfl rfl cl_X12_232 rfl rfl (c_behind (upR m 71 (rst (m 69) (m 71))) n (40 + 6 * h + 5) (by omega) (by omega) (by rw [r0]; exact w) (by rw [r0]; exact nb_up hd (by decide))) (fun m37 q37 => ?_)
  refine j_top (show itD n (upR m 71 (rst (m 69) (m 71)) 69) (40 + 6 * h + 5) = hf (itD n (m 69)) h 5 by rw [r0]) ?_
  have z69 : m37 69 = m 69 := by rw [q37.1, r0, upR_s]; exact rst_back (fun _ _ => rfl)
  refine j_istore3 41 dX12_stop_40 rfl rfl rfl ?_
  refine j_iconst 42 (v := -1) dX12_stop_41 rfl rfl ?_
  refine j_istore4 44 dX12_stop_42 rfl rfl rfl ?_
  refine j_iconst 45 (v := 0) dX12_stop_44 rfl rfl ?_
  refine j_istore5 47 dX12_stop_45 rfl rfl rfl ?_
  exact lm_stop (m 69) (m 71) w hd h n hh hn (upR m 71 (rst (m 69) (m 71))) upR_s (fun i => hf (itD n (upd1 (m 69) (24 + i) (nI i))) h 5) _ (fun _ => rfl) (fun m' r s => ⟨rfl, r, (Sm.rf.row (by decide)).trans (s.mono (by decide))⟩) 16 0 _ none rfl z69 q37.2
theorem op_stop {m : Mem} (I : INV m) (a b : Int32) : OPr l g mX11_stop mX12_stop [.int a, .int b] m := by
  obtain ⟨⟨wf, hd, hT, hP⟩, -⟩ := id I
  by_cases c : (0 ≤ a ∧ a < m 69 0 ∧ a < 8) ∧ (0 ≤ b ∧ b ≤ 20)
  · obtain ⟨h1, h2⟩ := c
    obtain ⟨i, hi, rfl⟩ := (isH_c wf).mp h1
    obtain ⟨n, hn, rfl⟩ := (rngN 20 (by decide)).mp h2
    have n8 := wf.n.1
    have hh : i < 8 := by omega
    refine OPr_ask (d2 := 7) I (by decide) (by decide) (o_stop m (m 69) wf hT hP i n hh hn (by rw [hT.1]; exact h1)) (fun m' s => ?_)
    have e := dn s
    have hq := p_stop (l := l) (g := g) m' (by rw [e]; exact wf) (by rw [e]; exact hd) i n hh hn (by rw [e]; exact (isH_m wf).mpr ⟨i, hi, rfl⟩)
    rw [e] at hq
    exact hq
  · exact OPr_err I (by decide) (by decide) (by decide) (e_stop m a b (by rw [hT.1]; exact c)) (f_stop _ a b (fun q => c ⟨(isH_c wf).mpr ((isH_m wf).mp (by have := q.1; rw [errC_o (by decide)] at this; exact this)), q.2⟩))
end O17
