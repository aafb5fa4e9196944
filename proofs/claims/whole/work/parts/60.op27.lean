/-! whence: the reference; op -/
theorem kd16 {k : Nat} (h : k < 112) : nI k / nI 16 = nI (k / 16) := pk_div (by omega) (by decide) (by decide)
theorem km16 {k : Nat} (h : k < 112) : irm (nI k) (nI 16) = nI (k % 16) := irm_nI (by omega) (by decide) (by decide)
section O27
variable {l : Launch} {g : Gv}
set_option maxRecDepth 100000 in
theorem lx_whence {Q : Option Value → Mem → Prop} (e : Nat → Int32) (w : WF e) (hd : nb (e 1) 10000) (s h : Nat) (hs4 : s < 4) (hh : h < 8) (v a4 a5 a6 : Int32) (f : Nat → Int32) (K : Nat) (h40 : K ≤ 40) (m0 : Mem) (hK : m0 78 s = nI K) (hf0 : ∀ i, i < 40 → m0 79 (40 * s + i) = f i) (k1 : tolP e h f K → ∀ m' j, m' 69 = itD j e → Sm [69, 73, 75] m0 m' → ∀ o, J l g 7 mX12_whence 155 [some (rf g 68), some (.int (nI s)), some (.int (nI h)), some (.int v), some (.int a4), some (.int a5), some (.int a6), some (.int 1), o] [] m' Q) (k0 : ¬ tolP e h f K → ∀ m' j, m' 69 = itD j e → Sm [69, 73, 75] m0 m' → ∀ o, J l g 7 mX12_whence 155 [some (rf g 68), some (.int (nI s)), some (.int (nI h)), some (.int v), some (.int a4), some (.int a5), some (.int a6), some (.int 0), o] [] m' Q) : ∀ (k i : Nat) (m : Mem), i + k = K → (∀ j, j < i → hf (itD (j + 1) e) h 4 = f j) → m 69 = itD i e → Sm [69, 73, 75] m0 m → J l g 7 mX12_whence 101 [some (rf g 68), some (.int (nI s)), some (.int (nI h)), some (.int v), some (.int a4), some (.int a5), some (.int a6), some (.int 1), some (.int (nI i))] [] m Q := by
  intro k
  induction k with
  | zero =>
    intro i m ei ha hm hs
    have ei : i = K := by omega
    have e78 : m 78 s = nI K := (congrFun (hs 78 (by decide)) _).trans hK
    subst ei
    refine j_iload8 103 dX12_whence_101 rfl ?_
    refine j_aload0 104 dX12_whence_103 rfl ?_
    refine j_getR 107 dX12_whence_104 rfl fl_X12_37 rfl rfl ?_
    refine j_iload1 108 dX12_whence_107 rfl ?_
    refine j_iald 109 _ rfl hs4 dX12_whence_108 rfl rfl ?_
    refine j_top e78 ?_
    refine j_cmp_ge 155 112 dX12_whence_109 rfl rfl (fun h109 => ?_) (fun h109 => absurd (Int32.le_refl _) h109)
    exact k1 ha m i hm hs _
  | succ k ih =>
    intro i m ei ha hm hs
    have e2 : nI i + 1 = nI (i + 1) := nI_1 i
    have e78 : m 78 s = nI K := (congrFun (hs 78 (by decide)) _).trans hK
    have wi := itD_wf i w
    have ex : ∀ m', m' 69 = itD (i + 1) e → Sm [69, 73, 75] m0 m' → ¬ tolP e h f K → J l g 7 mX12_whence 101 [some (rf g 68), some (.int (nI s)), some (.int (nI h)), some (.int v), some (.int a4), some (.int a5), some (.int a6), some (.int 0), some (.int (nI (i + 1)))] [] m' Q := by
      intro m' r' s' hn
      refine j_iload8 103 dX12_whence_101 rfl ?_
      refine j_aload0 104 dX12_whence_103 rfl ?_
      refine j_getR 107 dX12_whence_104 rfl fl_X12_37 rfl rfl ?_
      refine j_iload1 108 dX12_whence_107 rfl ?_
      refine j_iald 109 _ rfl hs4 dX12_whence_108 rfl rfl ?_
      refine j_cmp_ge 155 112 dX12_whence_109 rfl rfl (fun h109 => ?_) (fun h109 => ?_)
      · exact k0 hn m' (i + 1) r' s' _
      · refine j_iload7 114 dX12_whence_112 rfl ?_
        refine j_if_eq 155 117 dX12_whence_114 rfl rfl (fun h114 => ?_) (fun h114 => absurd rfl h114)
        exact k0 hn m' (i + 1) r' s' _
    refine j_iload8 103 dX12_whence_101 rfl ?_
    refine j_aload0 104 dX12_whence_103 rfl ?_
    refine j_getR 107 dX12_whence_104 rfl fl_X12_37 rfl rfl ?_
    refine j_iload1 108 dX12_whence_107 rfl ?_
    refine j_iald 109 _ rfl hs4 dX12_whence_108 rfl rfl ?_
    refine j_top e78 ?_
    refine j_cmp_ge 155 112 dX12_whence_109 rfl rfl (fun h109 => absurd h109 (nI_ge (a := i) (b := K) (by omega) (by omega))) (fun h109 => ?_)
    refine j_iload7 114 dX12_whence_112 rfl ?_
    refine j_if_eq 155 117 dX12_whence_114 rfl rfl (fun h114 => absurd h114 (by decide)) (fun h114 => ?_)
    refine j_aload0 118 dX12_whence_117 rfl ?_
    refine j_vi0w 121 dX12_whence_118 rfl rfl cl_X12_171 rfl rfl (c_mday m (by rw [hm]; exact wi) (by rw [hm]; exact nb_up (itnb i w hd) (by omega))) (fun m118 q118 => ?_)
    have r1 : m118 69 = itD (i + 1) e := by rw [itD_s, q118.1, hm]
    have s1 : Sm [69, 73, 75] m0 m118 := hs.trans q118.2
    have v1 : hf (m118 69) h 4 = hf (itD (i + 1) e) h 4 := by rw [r1]
    have v2 : m118 79 (40 * s + i) = f i := (congrFun (s1 79 (by decide)) _).trans (hf0 i (by omega))
    refine j_aload0 122 dX12_whence_121 rfl ?_
    refine j_getR 125 dX12_whence_122 rfl fl_X12_40 rfl rfl ?_
    refine j_bipush 127 (v := nI 40) dX12_whence_125 rfl rfl ?_
    refine j_iload1 128 dX12_whence_127 rfl ?_
    refine j_imulN 129 dX12_whence_128 rfl ?_
    refine j_iload8 131 dX12_whence_129 rfl ?_
    refine j_iaddN 132 dX12_whence_131 rfl ?_
    refine j_iald 133 (40 * s + i) rfl (show 40 * s + i < 160 by omega) dX12_whence_132 rfl rfl ?_
    refine j_aload0 134 dX12_whence_133 rfl ?_
    refine j_iload2 135 dX12_whence_134 rfl ?_
    refine j_iconst 136 (v := nI 4) dX12_whence_135 rfl rfl ?_
    refine j_vi2f 139 dX12_whence_136 rfl rfl cl_X12_146 rfl rfl (c_of m118 h 4 hh (by decide)) ?_
    refine j_cmp_ne 146 142 dX12_whence_139 rfl rfl (fun h139 => ?_) (fun h139 => ?_)
    · refine j_iconst 147 (v := 0) dX12_whence_146 rfl rfl ?_
      refine j_istore7 149 dX12_whence_147 rfl rfl rfl ?_
      refine j_iinc8 152 (1) dX12_whence_149 rfl rfl rfl rfl ?_
      refine j_goto 101 dX12_whence_152 rfl ?_
      rw [e2]
      first | exact ih (i + 1) m118 (by omega) (fun j hj => by
        by_cases q : j = i
        · rw [q]; exact v1.symm.trans (h139.symm.trans v2)
        · exact ha j (by omega)) r1 s1 | exact ex m118 r1 s1 (fun q => h139 (v2.trans ((q i (by omega)).symm.trans v1.symm)))
    · refine j_iconst 143 (v := 1) dX12_whence_142 rfl rfl ?_
      refine j_goto 147 dX12_whence_143 rfl ?_
      refine j_istore7 149 dX12_whence_147 rfl rfl rfl ?_
      refine j_iinc8 152 (1) dX12_whence_149 rfl rfl rfl rfl ?_
      refine j_goto 101 dX12_whence_152 rfl ?_
      rw [e2]
      first | exact ih (i + 1) m118 (by omega) (fun j hj => by
        by_cases q : j = i
        · rw [q]; exact v1.symm.trans (h139.symm.trans v2)
        · exact ha j (by omega)) r1 s1 | exact ex m118 r1 s1 (fun q => h139 (v2.trans ((q i (by omega)).symm.trans v1.symm)))
set_option maxRecDepth 100000 in
theorem lm_whence {Q : Option Value → Mem → Prop} (d a0 : Nat → Int32) (w : WF d) (hd : nb (d 1) 10000) (s h : Nat) (hs4 : s < 4) (hh : h < 8) (v : Int32) (f : Nat → Int32) (K : Nat) (h40 : K ≤ 40) (m0 : Mem) (h71 : m0 71 = rst d a0) (hK : m0 78 s = nI K) (hf0 : ∀ i, i < 40 → m0 79 (40 * s + i) = f i) (kk : ∀ m', m' 69 = d → Sm [69, 73, 75] m0 m' → ∀ o7 o8, J l g 7 mX12_whence 211 [some (rf g 68), some (.int (nI s)), some (.int (nI h)), some (.int v), some (.int (nI (cN (whP d h f K) 112))), some (.int (fsI (whP d h f K) 0 112)), some (.int (nI 112)), o7, o8] [] m' Q) : ∀ (k i : Nat) (m : Mem) (o7 o8 : Option Value), i + k = 112 → m 69 = d → Sm [69, 73, 75] m0 m → J l g 7 mX12_whence 59 [some (rf g 68), some (.int (nI s)), some (.int (nI h)), some (.int v), some (.int (nI (cN (whP d h f K) i))), some (.int (fsI (whP d h f K) 0 i)), some (.int (nI i)), o7, o8] [] m Q := by
  intro k
  induction k with
  | zero =>
    intro i m o7 o8 e hm hs
    have e : i = 112 := by omega
    subst e
    refine j_iload6 61 dX12_whence_59 rfl ?_
    refine j_bipush 63 (v := 112) dX12_whence_61 rfl rfl ?_
    refine j_cmp_ge 211 66 dX12_whence_63 rfl rfl (fun h63 => ?_) (fun h63 => absurd (by decide) h63)
    exact kk m hm hs _ _
  | succ k ih =>
    intro i m o7 o8 e hm hs
    have e2 : nI i + 1 = nI (i + 1) := nI_1 i
    have e3 : nI (cN (whP d h f K) i) + 1 = nI (cN (whP d h f K) i + 1) := nI_1 _
    have e4 : nI (cN (whP d h f K) i) + 0 = nI (cN (whP d h f K) i) := nI_add _ 0
    have hi : i < 112 := by omega
    have w1 := WF_wh w (h := h) (k := i) hh hi
    have d1 : whD d h i 1 = d 1 := whD_o (by omega) (by omega) (by omega)
    have r69 : up2 (up2 (up2 m 69 (40 + 6 * h + 0) (nI (i / 16))) 69 (40 + 6 * h + 3) 0) 69 (40 + 6 * h + 4) (nI (i % 16)) 69 = whD d h i := by rw [up2_row69, up2_row69, up2_row69, hm]; rfl
    have bk : ∀ m1 j, m1 69 = itD j (whD d h i) → Sm [69, 73, 75] m0 m1 → upR m1 69 (rst (m1 71) (m1 69)) 69 = d := fun m1 j r1 s1 => by
      rw [upR_s, s1 71 (by decide), h71, r1]
      exact rst_back (fun t ht => (itD_k j w1 (by omega) (by omega) (by omega)).trans (whD_o (by omega) (by omega) (by omega)))
    have t1 : whP d h f K i → ∀ m' j, m' 69 = itD j (whD d h i) → Sm [69, 73, 75] m0 m' → ∀ o, J l g 7 mX12_whence 155 [some (rf g 68), some (.int (nI s)), some (.int (nI h)), some (.int v), some (.int (nI (cN (whP d h f K) i))), some (.int (fsI (whP d h f K) 0 i)), some (.int (nI i)), some (.int 1), o] [] m' Q := by
      intro hp m1 j r1 s1 o
      refine j_aload0 156 dX12_whence_155 rfl ?_
      refine j_vi0v 159 dX12_whence_156 rfl rfl cl_X12_223 rfl rfl (c_putBack m1) ?_
      refine j_iload7 161 dX12_whence_159 rfl ?_
      refine j_if_eq 186 164 dX12_whence_161 rfl rfl (fun h161 => absurd h161 (by decide)) (fun h161 => ?_)
      refine j_iload4 166 dX12_whence_164 rfl ?_
      refine j_if_ne 186 169 dX12_whence_166 rfl rfl (fun h166 => ?_) (fun h166 => ?_)
      · refine j_iload5 188 dX12_whence_186 rfl ?_
        refine j_istore5 190 dX12_whence_188 rfl rfl rfl ?_
        refine j_iload4 192 dX12_whence_190 rfl ?_
        refine j_iload7 194 dX12_whence_192 rfl ?_
        refine j_if_eq 201 197 dX12_whence_194 rfl rfl (fun h194 => absurd h194 (by decide)) (fun h194 => ?_)
        refine j_iconst 198 (v := 1) dX12_whence_197 rfl rfl ?_
        refine j_goto 202 dX12_whence_198 rfl ?_
        refine j_iadd 203 dX12_whence_202 rfl ?_
        refine j_istore4 205 dX12_whence_203 rfl rfl rfl ?_
        refine j_iinc6 208 (1) dX12_whence_205 rfl rfl rfl rfl ?_
        refine j_goto 59 dX12_whence_208 rfl ?_
        have ih1 := ih (i + 1) _ (some (.int 1)) o (by omega) (bk m1 j r1 s1) (s1.row (by decide))
        rw [cN_t hp] at ih1
        rw [e2, e3]
        by_cases h0 : cN (whP d h f K) i = 0
        · rw [fs_t hp h0] at ih1
          first | exact ih1 | exact absurd ((n0_c (by omega)).mpr h0) h166
        · rw [fs_f (fun z => h0 z.2)] at ih1
          first | exact ih1 | exact absurd ((n0_c (by omega)).mp h166) h0
      · refine j_bipush 171 (v := nI 100) dX12_whence_169 rfl rfl ?_
        refine j_iload6 173 dX12_whence_171 rfl ?_
        refine j_bipush 175 (v := nI 16) dX12_whence_173 rfl rfl ?_
        refine j_idiv 176 dX12_whence_175 rfl (by decide) ?_
        refine j_top (kd16 hi) ?_
        refine j_imulN 177 dX12_whence_176 rfl ?_
        refine j_iload6 179 dX12_whence_177 rfl ?_
        refine j_bipush 181 (v := nI 16) dX12_whence_179 rfl rfl ?_
        refine j_irm 182 dX12_whence_181 rfl (by decide) ?_
        refine j_top (km16 hi) ?_
        refine j_iaddN 183 dX12_whence_182 rfl ?_
        refine j_goto 188 dX12_whence_183 rfl ?_
        refine j_istore5 190 dX12_whence_188 rfl rfl rfl ?_
        refine j_iload4 192 dX12_whence_190 rfl ?_
        refine j_iload7 194 dX12_whence_192 rfl ?_
        refine j_if_eq 201 197 dX12_whence_194 rfl rfl (fun h194 => absurd h194 (by decide)) (fun h194 => ?_)
        refine j_iconst 198 (v := 1) dX12_whence_197 rfl rfl ?_
        refine j_goto 202 dX12_whence_198 rfl ?_
        refine j_iadd 203 dX12_whence_202 rfl ?_
        refine j_istore4 205 dX12_whence_203 rfl rfl rfl ?_
        refine j_iinc6 208 (1) dX12_whence_205 rfl rfl rfl rfl ?_
        refine j_goto 59 dX12_whence_208 rfl ?_
        have ih1 := ih (i + 1) _ (some (.int 1)) o (by omega) (bk m1 j r1 s1) (s1.row (by decide))
        rw [cN_t hp] at ih1
        rw [e2, e3]
        by_cases h0 : cN (whP d h f K) i = 0
        · rw [fs_t hp h0] at ih1
          first | exact ih1 | exact absurd ((n0_c (by omega)).mpr h0) h166
        · rw [fs_f (fun z => h0 z.2)] at ih1
          first | exact ih1 | exact absurd ((n0_c (by omega)).mp h166) h0
    have t0 : ¬ whP d h f K i → ∀ m' j, m' 69 = itD j (whD d h i) → Sm [69, 73, 75] m0 m' → ∀ o, J l g 7 mX12_whence 155 [some (rf g 68), some (.int (nI s)), some (.int (nI h)), some (.int v), some (.int (nI (cN (whP d h f K) i))), some (.int (fsI (whP d h f K) 0 i)), some (.int (nI i)), some (.int 0), o] [] m' Q := by
      intro hp m1 j r1 s1 o
      refine j_aload0 156 dX12_whence_155 rfl ?_
      refine j_vi0v 159 dX12_whence_156 rfl rfl cl_X12_223 rfl rfl (c_putBack m1) ?_
      refine j_iload7 161 dX12_whence_159 rfl ?_
      refine j_if_eq 186 164 dX12_whence_161 rfl rfl (fun h161 => ?_) (fun h161 => absurd rfl h161)
      refine j_iload5 188 dX12_whence_186 rfl ?_
      refine j_istore5 190 dX12_whence_188 rfl rfl rfl ?_
      refine j_iload4 192 dX12_whence_190 rfl ?_
      refine j_iload7 194 dX12_whence_192 rfl ?_
      refine j_if_eq 201 197 dX12_whence_194 rfl rfl (fun h194 => ?_) (fun h194 => absurd rfl h194)
      refine j_iconst 202 (v := 0) dX12_whence_201 rfl rfl ?_
      refine j_iadd 203 dX12_whence_202 rfl ?_
      refine j_istore4 205 dX12_whence_203 rfl rfl rfl ?_
      refine j_iinc6 208 (1) dX12_whence_205 rfl rfl rfl rfl ?_
      refine j_goto 59 dX12_whence_208 rfl ?_
      have ih1 := ih (i + 1) _ (some (.int 0)) o (by omega) (bk m1 j r1 s1) (s1.row (by decide))
      rw [cN_f hp, fs_f (fun z => hp z.1)] at ih1
      rw [e2, e4]
      exact ih1
    refine j_iload6 61 dX12_whence_59 rfl ?_
    refine j_bipush 63 (v := 112) dX12_whence_61 rfl rfl ?_
    refine j_cmp_ge 211 66 dX12_whence_63 rfl rfl (fun h63 => absurd h63 (nI_ge (a := i) (b := 112) (by omega) (by decide))) (fun h63 => ?_)
    refine j_aload0 67 dX12_whence_66 rfl ?_
    refine j_iload2 68 dX12_whence_67 rfl ?_
    refine j_iconst 69 (v := nI 0) dX12_whence_68 rfl rfl ?_
    refine j_iload6 71 dX12_whence_69 rfl ?_
    refine j_bipush 73 (v := nI 16) dX12_whence_71 rfl rfl ?_
    refine j_idiv 74 dX12_whence_73 rfl (by decide) ?_
    refine j_top (kd16 hi) ?_
    refine j_vi3v 77 dX12_whence_74 rfl rfl cl_X12_164 rfl rfl (c_sets m h 0 (nI (i / 16)) hh (by decide)) ?_
    refine j_aload0 78 dX12_whence_77 rfl ?_
    refine j_iload2 79 dX12_whence_78 rfl ?_
    refine j_iconst 80 (v := nI 3) dX12_whence_79 rfl rfl ?_
    refine j_iconst 81 (v := 0) dX12_whence_80 rfl rfl ?_
    refine j_vi3v 84 dX12_whence_81 rfl rfl cl_X12_164 rfl rfl (c_sets _ h 3 0 hh (by decide)) ?_
    refine j_aload0 85 dX12_whence_84 rfl ?_
    refine j_iload2 86 dX12_whence_85 rfl ?_
    refine j_iconst 87 (v := nI 4) dX12_whence_86 rfl rfl ?_
    refine j_iload6 89 dX12_whence_87 rfl ?_
    refine j_bipush 91 (v := nI 16) dX12_whence_89 rfl rfl ?_
    refine j_irm 92 dX12_whence_91 rfl (by decide) ?_
    refine j_top (km16 hi) ?_
    refine j_vi3v 95 dX12_whence_92 rfl rfl cl_X12_164 rfl rfl (c_sets _ h 4 (nI (i % 16)) hh (by decide)) ?_
    refine j_iconst 96 (v := 1) dX12_whence_95 rfl rfl ?_
    refine j_istore7 98 dX12_whence_96 rfl rfl rfl ?_
    refine j_iconst 99 (v := 0) dX12_whence_98 rfl rfl ?_
    refine j_istore8 101 dX12_whence_99 rfl rfl rfl ?_
    exact lx_whence (whD d h i) w1 (by rw [d1]; exact hd) s h hs4 hh v _ _ _ f K h40 m0 hK hf0 t1 t0 K 0 _ (Nat.zero_add _) (fun j hj => absurd hj (Nat.not_lt_zero j)) r69 (((hs.up (by decide)).up (by decide)).up (by decide))
set_option maxRecDepth 100000 in
theorem p_whence {Q : Option Value → Mem → Prop} (m : Mem) (d : Nat → Int32) (hm : m 69 = d) (w : WF d) (hd : nb (d 1) 10000) (s h : Nat) (hs4 : s < 4) (hh : h < 8) (v : Int32) (f : Nat → Int32) (K : Nat) (h40 : K ≤ 40) (hK : m 78 s = nI K) (hf0 : ∀ i, i < 40 → m 79 (40 * s + i) = f i) (hb : ¬ m 77 s = 0) (h1 : 0 ≤ nI h ∧ nI h ≤ m 69 0 - 1) (h3 : 0 ≤ v ∧ v ≤ 1) (kk0 : v = 0 → ∀ m', MK m m' → Q (some (.int (nI (cN (whP d h f K) 112)))) m') (kk1 : ¬ v = 0 → cN (whP d h f K) 112 ≠ 0 → ∀ m', MK m m' → Q (some (.int (fsI (whP d h f K) 0 112))) m') (kk2 : ¬ v = 0 → cN (whP d h f K) 112 = 0 → ∀ m', MK m m' → Q (some (.int (-1000000002))) (errM 2 m')) : JM l g 7 mX12_whence [rf g 68, .int (nI s), .int (nI h), .int v] m (Q) := by
  refine JM_of (ls := [some (rf g 68), some (.int (nI s)), some (.int (nI h)), some (.int v), none, none, none, none, none]) pn_X12 rfl rfl ?_
  have tl : ∀ m', m' 69 = d → Sm [69, 73, 75] (upR m 71 (rst (m 69) (m 71))) m' → ∀ o7 o8, J l g 7 mX12_whence 211 [some (rf g 68), some (.int (nI s)), some (.int (nI h)), some (.int v), some (.int (nI (cN (whP d h f K) 112))), some (.int (fsI (whP d h f K) 0 112)), some (.int (nI 112)), o7, o8] [] m' Q := by
    intro m' r s o7 o8
    have mk : MK m m' := ⟨r.trans hm.symm, (Sm.rf.row (by decide)).trans (s.mono (by decide))⟩
    refine j_iload3 212 dX12_whence_211 rfl ?_
    refine j_if_ne 220 215 dX12_whence_212 rfl rfl (fun h212 => ?_) (fun h212 => ?_)
    · refine j_iload4 222 dX12_whence_220 rfl ?_
      refine j_if_ne 233 225 dX12_whence_222 rfl rfl (fun h222 => ?_) (fun h222 => ?_)
      · refine j_iload5 235 dX12_whence_233 rfl ?_
        refine j_iret dX12_whence_235 rfl ?_
        first | exact kk1 h212 (fun q => h222 ((n0_c (by decide)).mpr q)) m' mk | exact kk2 h212 ((n0_c (by decide)).mp h222) m' mk | exact kk0 h212 m' mk
      · refine j_aload0 226 dX12_whence_225 rfl ?_
        refine j_iconst 227 (v := 2) dX12_whence_226 rfl rfl ?_
        refine j_vi1f 230 dX12_whence_227 rfl rfl cl_X12_126 rfl rfl (c_finds2 m') ?_
        refine j_goto 235 dX12_whence_230 rfl ?_
        refine j_iret dX12_whence_235 rfl ?_
        first | exact kk1 h212 (fun q => h222 ((n0_c (by decide)).mpr q)) m' mk | exact kk2 h212 ((n0_c (by decide)).mp h222) m' mk | exact kk0 h212 m' mk
    · refine j_iload4 217 dX12_whence_215 rfl ?_
      refine j_goto 235 dX12_whence_217 rfl ?_
      refine j_iret dX12_whence_235 rfl ?_
      first | exact kk1 h212 (fun q => h222 ((n0_c (by decide)).mpr q)) m' mk | exact kk2 h212 ((n0_c (by decide)).mp h222) m' mk | exact kk0 h212 m' mk
  refine j_iload1 1 dX12_whence_0 rfl ?_
  refine j_st1f 4 dX12_whence_1 rfl rfl cl_X12_243 rfl (c_misSheet m _) ?_
  refine j_if_eq_bz 25 7 dX12_whence_4 rfl rfl (fun h4 => absurd ((rngN 3 (by decide)).mpr ⟨s, by omega, rfl⟩) h4) (fun h4 => ?_)
  refine j_aload0 8 dX12_whence_7 rfl ?_
  refine j_iload2 9 dX12_whence_8 rfl ?_
  refine j_vi1f 12 dX12_whence_9 rfl rfl cl_X12_199 rfl rfl (c_misHeir m _) ?_
  refine j_if_eq_bz 25 15 dX12_whence_12 rfl rfl (fun h12 => absurd h1 h12) (fun h12 => ?_)
  refine j_iload3 16 dX12_whence_15 rfl ?_
  refine j_i2l 17 dX12_whence_16 rfl ?_
  refine j_lconst 18 (v := 0) dX12_whence_17 rfl rfl ?_
  refine j_lconst 19 (v := 1) dX12_whence_18 rfl rfl ?_
  refine j_st3f 22 dX12_whence_19 rfl rfl cl_X12_47 rfl (c_in m _ 0 1) ?_
  refine j_if_ne_bz 31 25 dX12_whence_22 rfl rfl (fun h22 => ?_) (fun h22 => absurd h3 h22)
  refine j_aload0 32 dX12_whence_31 rfl ?_
  refine j_getR 35 dX12_whence_32 rfl fl_X12_34 rfl rfl ?_
  refine j_iload1 36 dX12_whence_35 rfl ?_
  refine j_iald 37 _ rfl hs4 dX12_whence_36 rfl rfl ?_
  refine j_if_ne 46 40 dX12_whence_37 rfl rfl (fun h37 => ?_) (fun h37 => absurd h37 hb)
  refine j_aload0 47 dX12_whence_46 rfl ?_
  refine j_vi0v 50 dX12_whence_47 rfl rfl cl_X12_226 rfl rfl (c_keepAside m) ?_
  refine j_iconst 51 (v := 0) dX12_whence_50 rfl rfl ?_
  refine j_istore4 53 dX12_whence_51 rfl rfl rfl ?_
  refine j_iconst 54 (v := 0) dX12_whence_53 rfl rfl ?_
  refine j_istore5 56 dX12_whence_54 rfl rfl rfl ?_
  refine j_iconst 57 (v := 0) dX12_whence_56 rfl rfl ?_
  refine j_istore6 59 dX12_whence_57 rfl rfl rfl ?_
  exact lm_whence d (m 71) w hd s h hs4 hh v f K h40 (upR m 71 (rst (m 69) (m 71))) (by rw [upR_s, hm]) ((congrFun (upR_n (by decide)) _).trans hK) (fun i hi => (congrFun (upR_n (by decide)) _).trans (hf0 i hi)) tl 112 0 _ none none rfl ((upR_n (by decide)).trans hm) Sm.rf
set_option maxRecDepth 100000 in
theorem e_whence0 (m : Mem) (s h v : Int32) (c : ¬ ((0 ≤ s ∧ s ≤ 3) ∧ (0 ≤ h ∧ h < m 9 9 ∧ h < 8) ∧ (0 ≤ v ∧ v ≤ 1))) : JM l g 2 mX11_whence [rf g 0, .int s, .int h, .int v] m (RF (some (.int (-1000000001))) (errC 1 m)) := by
  refine JM_of (ls := [some (rf g 0), some (.int s), some (.int h), some (.int v), none, none, none, none]) pn_X11 rfl rfl ?_
  refine j_iload1 1 dX11_whence_0 rfl ?_
  refine j_st1f 4 dX11_whence_1 rfl rfl cl_X11_230 rfl (c_isSheet m s) ?_
  refine j_if_eq_bz 24 7 dX11_whence_4 rfl rfl (fun h4 => ?_) (fun h4 => ?_)
  · refine j_aload0 25 dX11_whence_24 rfl ?_
    refine j_ldc 27 dX11_whence_25 rfl kc_X11_81 ?_
    refine j_vi1f 30 dX11_whence_27 rfl rfl cl_X11_82 rfl rfl (c_err1 m) ?_
    refine j_iret dX11_whence_30 rfl ?_
    exact ⟨rfl, rfl⟩
  · refine j_aload0 8 dX11_whence_7 rfl ?_
    refine j_iload2 9 dX11_whence_8 rfl ?_
    refine j_vi1f 12 dX11_whence_9 rfl rfl cl_X11_124 rfl rfl (c_isHeir m h) ?_
    refine j_if_eq_bz 24 15 dX11_whence_12 rfl rfl (fun h12 => ?_) (fun h12 => ?_)
    · refine j_aload0 25 dX11_whence_24 rfl ?_
      refine j_ldc 27 dX11_whence_25 rfl kc_X11_81 ?_
      refine j_vi1f 30 dX11_whence_27 rfl rfl cl_X11_82 rfl rfl (c_err1 m) ?_
      refine j_iret dX11_whence_30 rfl ?_
      exact ⟨rfl, rfl⟩
    · refine j_iload3 16 dX11_whence_15 rfl ?_
      refine j_iconst 17 (v := 0) dX11_whence_16 rfl rfl ?_
      refine j_iconst 18 (v := 1) dX11_whence_17 rfl rfl ?_
      refine j_st3f 21 dX11_whence_18 rfl rfl cl_X11_86 rfl (c_within m v 0 1) ?_
      refine j_if_ne_bz 31 24 dX11_whence_21 rfl rfl (fun h21 => ?_) (fun h21 => ?_)
      · exact absurd (And.intro h4 (And.intro h12 h21)) c
      · refine j_aload0 25 dX11_whence_24 rfl ?_
        refine j_ldc 27 dX11_whence_25 rfl kc_X11_81 ?_
        refine j_vi1f 30 dX11_whence_27 rfl rfl cl_X11_82 rfl rfl (c_err1 m) ?_
        refine j_iret dX11_whence_30 rfl ?_
        exact ⟨rfl, rfl⟩
set_option maxRecDepth 100000 in
theorem f_whence0 (m : Mem) (s h v : Int32) (c : ¬ ((0 ≤ s ∧ s ≤ 3) ∧ (0 ≤ h ∧ h ≤ m 69 0 - 1) ∧ (0 ≤ v ∧ v ≤ 1))) : JM l g 2 mX12_whence [rf g 68, .int s, .int h, .int v] m (RF (some (.int (-1000000001))) (errM 1 m)) := by
  refine JM_of (ls := [some (rf g 68), some (.int s), some (.int h), some (.int v), none, none, none, none, none]) pn_X12 rfl rfl ?_
  refine j_iload1 1 dX12_whence_0 rfl ?_
  refine j_st1f 4 dX12_whence_1 rfl rfl cl_X12_243 rfl (c_misSheet m s) ?_
  refine j_if_eq_bz 25 7 dX12_whence_4 rfl rfl (fun h4 => ?_) (fun h4 => ?_)
  · refine j_aload0 26 dX12_whence_25 rfl ?_
    refine j_iconst 27 (v := 1) dX12_whence_26 rfl rfl ?_
    refine j_vi1f 30 dX12_whence_27 rfl rfl cl_X12_126 rfl rfl (c_finds1 m) ?_
    refine j_iret dX12_whence_30 rfl ?_
    exact ⟨rfl, rfl⟩
  · refine j_aload0 8 dX12_whence_7 rfl ?_
    refine j_iload2 9 dX12_whence_8 rfl ?_
    refine j_vi1f 12 dX12_whence_9 rfl rfl cl_X12_199 rfl rfl (c_misHeir m h) ?_
    refine j_if_eq_bz 25 15 dX12_whence_12 rfl rfl (fun h12 => ?_) (fun h12 => ?_)
    · refine j_aload0 26 dX12_whence_25 rfl ?_
      refine j_iconst 27 (v := 1) dX12_whence_26 rfl rfl ?_
      refine j_vi1f 30 dX12_whence_27 rfl rfl cl_X12_126 rfl rfl (c_finds1 m) ?_
      refine j_iret dX12_whence_30 rfl ?_
      exact ⟨rfl, rfl⟩
    · refine j_iload3 16 dX12_whence_15 rfl ?_
      refine j_i2l 17 dX12_whence_16 rfl ?_
      refine j_lconst 18 (v := 0) dX12_whence_17 rfl rfl ?_
      refine j_lconst 19 (v := 1) dX12_whence_18 rfl rfl ?_
      refine j_st3f 22 dX12_whence_19 rfl rfl cl_X12_47 rfl (c_in m v 0 1) ?_
      refine j_if_ne_bz 31 25 dX12_whence_22 rfl rfl (fun h22 => ?_) (fun h22 => ?_)
      · exact absurd (And.intro h4 (And.intro h12 h22)) c
      · refine j_aload0 26 dX12_whence_25 rfl ?_
        refine j_iconst 27 (v := 1) dX12_whence_26 rfl rfl ?_
        refine j_vi1f 30 dX12_whence_27 rfl rfl cl_X12_126 rfl rfl (c_finds1 m) ?_
        refine j_iret dX12_whence_30 rfl ?_
        exact ⟨rfl, rfl⟩
set_option maxRecDepth 100000 in
theorem e_whence1 (m : Mem) (s : Nat) (h v : Int32) (hs : s < 4) (h2 : 0 ≤ h ∧ h < m 9 9 ∧ h < 8) (h3 : 0 ≤ v ∧ v ≤ 1) (hb : m 65 s = 0) : JM l g 2 mX11_whence [rf g 0, .int (nI s), .int h, .int v] m (RF (some (.int (-1000000002))) (errC 2 m)) := by
  refine JM_of (ls := [some (rf g 0), some (.int (nI s)), some (.int h), some (.int v), none, none, none, none]) pn_X11 rfl rfl ?_
  refine j_iload1 1 dX11_whence_0 rfl ?_
  refine j_st1f 4 dX11_whence_1 rfl rfl cl_X11_230 rfl (c_isSheet m _) ?_
  refine j_if_eq_bz 24 7 dX11_whence_4 rfl rfl (fun h4 => absurd ((rngN 3 (by decide)).mpr ⟨s, by omega, rfl⟩) h4) (fun h4 => ?_)
  refine j_aload0 8 dX11_whence_7 rfl ?_
  refine j_iload2 9 dX11_whence_8 rfl ?_
  refine j_vi1f 12 dX11_whence_9 rfl rfl cl_X11_124 rfl rfl (c_isHeir m h) ?_
  refine j_if_eq_bz 24 15 dX11_whence_12 rfl rfl (fun h12 => absurd h2 h12) (fun h12 => ?_)
  refine j_iload3 16 dX11_whence_15 rfl ?_
  refine j_iconst 17 (v := 0) dX11_whence_16 rfl rfl ?_
  refine j_iconst 18 (v := 1) dX11_whence_17 rfl rfl ?_
  refine j_st3f 21 dX11_whence_18 rfl rfl cl_X11_86 rfl (c_within m v 0 1) ?_
  refine j_if_ne_bz 31 24 dX11_whence_21 rfl rfl (fun h21 => ?_) (fun h21 => absurd h3 h21)
  refine j_aload0 32 dX11_whence_31 rfl ?_
  refine j_iload1 33 dX11_whence_32 rfl ?_
  refine j_vi1f 36 dX11_whence_33 rfl rfl cl_X11_233 rfl rfl (c_isMissing m s hs) ?_
  refine j_if_eq_bz 46 39 dX11_whence_36 rfl rfl (fun h36 => absurd hb h36) (fun h36 => ?_)
  refine j_aload0 40 dX11_whence_39 rfl ?_
  refine j_ldc 42 dX11_whence_40 rfl kc_X11_223 ?_
  refine j_vi1f 45 dX11_whence_42 rfl rfl cl_X11_82 rfl rfl (c_err2 m) ?_
  refine j_iret dX11_whence_45 rfl ?_
  exact ⟨rfl, rfl⟩
set_option maxRecDepth 100000 in
theorem f_whence1 (m : Mem) (s : Nat) (h v : Int32) (hs : s < 4) (h2 : 0 ≤ h ∧ h ≤ m 69 0 - 1) (h3 : 0 ≤ v ∧ v ≤ 1) (hb : m 77 s = 0) : JM l g 2 mX12_whence [rf g 68, .int (nI s), .int h, .int v] m (RF (some (.int (-1000000002))) (errM 2 m)) := by
  refine JM_of (ls := [some (rf g 68), some (.int (nI s)), some (.int h), some (.int v), none, none, none, none, none]) pn_X12 rfl rfl ?_
  refine j_iload1 1 dX12_whence_0 rfl ?_
  refine j_st1f 4 dX12_whence_1 rfl rfl cl_X12_243 rfl (c_misSheet m _) ?_
  refine j_if_eq_bz 25 7 dX12_whence_4 rfl rfl (fun h4 => absurd ((rngN 3 (by decide)).mpr ⟨s, by omega, rfl⟩) h4) (fun h4 => ?_)
  refine j_aload0 8 dX12_whence_7 rfl ?_
  refine j_iload2 9 dX12_whence_8 rfl ?_
  refine j_vi1f 12 dX12_whence_9 rfl rfl cl_X12_199 rfl rfl (c_misHeir m h) ?_
  refine j_if_eq_bz 25 15 dX12_whence_12 rfl rfl (fun h12 => absurd h2 h12) (fun h12 => ?_)
  refine j_iload3 16 dX12_whence_15 rfl ?_
  refine j_i2l 17 dX12_whence_16 rfl ?_
  refine j_lconst 18 (v := 0) dX12_whence_17 rfl rfl ?_
  refine j_lconst 19 (v := 1) dX12_whence_18 rfl rfl ?_
  refine j_st3f 22 dX12_whence_19 rfl rfl cl_X12_47 rfl (c_in m v 0 1) ?_
  refine j_if_ne_bz 31 25 dX12_whence_22 rfl rfl (fun h22 => ?_) (fun h22 => absurd h3 h22)
  refine j_aload0 32 dX12_whence_31 rfl ?_
  refine j_getR 35 dX12_whence_32 rfl fl_X12_34 rfl rfl ?_
  refine j_iload1 36 dX12_whence_35 rfl ?_
  refine j_iald 37 _ rfl hs dX12_whence_36 rfl rfl ?_
  refine j_if_ne 46 40 dX12_whence_37 rfl rfl (fun h37 => absurd h37 (fun q => q hb)) (fun h37 => ?_)
  refine j_aload0 41 dX12_whence_40 rfl ?_
  refine j_iconst 42 (v := 2) dX12_whence_41 rfl rfl ?_
  refine j_vi1f 45 dX12_whence_42 rfl rfl cl_X12_126 rfl rfl (c_finds2 m) ?_
  refine j_iret dX12_whence_45 rfl ?_
  exact ⟨rfl, rfl⟩
theorem op_whence {m : Mem} (I : INV m) (a b v : Int32) : OPr l g mX11_whence mX12_whence [.int a, .int b, .int v] m := by
  obtain ⟨⟨wf, hd, hT, hP⟩, -, -, -, hSH⟩ := id I
  by_cases c : (0 ≤ a ∧ a ≤ 3) ∧ (0 ≤ b ∧ b < m 69 0 ∧ b < 8) ∧ (0 ≤ v ∧ v ≤ 1)
  · obtain ⟨ca, cb, cv⟩ := c
    obtain ⟨s, hs, rfl⟩ := (rngN 3 (by decide)).mp ca
    have hs : s < 4 := by omega
    obtain ⟨h, hi, rfl⟩ := (isH_c wf).mp cb
    have hM := (isH_m wf).mpr ⟨h, hi, rfl⟩
    have cb9 : 0 ≤ nI h ∧ nI h < m 9 9 ∧ nI h < 8 := by rw [hT.1]; exact cb
    have hh : h < 8 := by have := wf.n.1; omega
    obtain ⟨a1, a2, a3, ⟨K, hK, eK⟩, a5⟩ := hSH s hs
    by_cases hb : m 77 s = 0
    · exact OPr_err I (by decide) (by decide) (by decide) (e_whence1 m s _ v hs cb9 cv (a1.trans hb)) (f_whence1 _ s _ v hs (by rw [errC_o (by decide)]; exact hM) cv (by rw [errC_o (by decide)]; exact hb))
    · have key : ∀ {Q : Option Value → Mem → Prop}, (v = 0 → ∀ m', Sm thS m m' → Q (some (.int (nI (cN (whP (m 69) h (m (61 + s)) K) 112)))) m') → (¬ v = 0 → cN (whP (m 69) h (m (61 + s)) K) 112 ≠ 0 → ∀ m', Sm thS m m' → Q (some (.int (fsI (whP (m 69) h (m (61 + s)) K) (-1) 112))) m') → (¬ v = 0 → cN (whP (m 69) h (m (61 + s)) K) 112 = 0 → ∀ m', Sm thS m m' → Q (some (.int (-1000000002))) (errC 2 m')) → JM l g 6 mX11_whence [rf g 0, .int (nI s), .int (nI h), .int v] m Q := by
        intro Q k0 k1 k2
        rcases (show s = 0 ∨ s = 1 ∨ s = 2 ∨ s = 3 by omega) with rfl | rfl | rfl | rfl
        · exact o_whence_0 m (m 69) wf hT hP h hh v _ K (by omega) (a2.trans eK) rfl (by rw [a1]; exact hb) cb9 cv k0 k1 k2
        · exact o_whence_1 m (m 69) wf hT hP h hh v _ K (by omega) (a2.trans eK) rfl (by rw [a1]; exact hb) cb9 cv k0 k1 k2
        · exact o_whence_2 m (m 69) wf hT hP h hh v _ K (by omega) (a2.trans eK) rfl (by rw [a1]; exact hb) cb9 cv k0 k1 k2
        · exact o_whence_3 m (m 69) wf hT hP h hh v _ K (by omega) (a2.trans eK) rfl (by rw [a1]; exact hb) cb9 cv k0 k1 k2
      by_cases v0 : v = 0
      · refine OPr_ask (d1 := 6) (d2 := 7) (r := nI (cN (whP (m 69) h (m (61 + s)) K) 112)) I (by decide) (by decide) (key (fun _ m' s => ⟨rfl, s⟩) (fun q => absurd v0 q) (fun q => absurd v0 q)) (fun m' s' => ?_)
        have e := dn s'
        exact p_whence m' (m 69) e wf hd s h hs hh v (m (61 + s)) K (by omega) (by rw [s' 78 (by decide)]; exact eK) (fun i hi => by rw [s' 79 (by decide)]; exact (a5 i hi).symm) (by rw [s' 77 (by decide)]; exact hb) (by rw [e]; exact hM) cv (fun _ m' s => ⟨rfl, s⟩) (fun q => absurd v0 q) (fun q => absurd v0 q)
      · by_cases z : cN (whP (m 69) h (m (61 + s)) K) 112 = 0
        · refine OPr_none (d1 := 6) (d2 := 7) (k := 2) I (by decide) (by decide) (by decide) (key (fun q => absurd q v0) (fun _ q => absurd z q) (fun _ _ m' s => ⟨rfl, m', s, rfl⟩)) (fun m' s' => ?_)
          have e : errC 2 m' 69 = m 69 := (errC_o (by decide)).trans (dn s')
          exact p_whence (errC 2 m') (m 69) e wf hd s h hs hh v (m (61 + s)) K (by omega) (by rw [errC_o (by decide), s' 78 (by decide)]; exact eK) (fun i hi => by rw [errC_o (by decide), s' 79 (by decide)]; exact (a5 i hi).symm) (by rw [errC_o (by decide), s' 77 (by decide)]; exact hb) (by rw [e]; exact hM) cv (fun q => absurd q v0) (fun _ q => absurd z q) (fun _ _ m' s => ⟨rfl, m', s, rfl⟩)
        · obtain ⟨c, c1, c2⟩ := fs_1 (P := whP (m 69) h (m (61 + s)) K) (k := 112) (by decide) z
          refine OPr_ask (d1 := 6) (d2 := 7) (r := nI c) I (by decide) (by decide) (key (fun q => absurd q v0) (fun _ _ m' s => ⟨by rw [c2], s⟩) (fun _ q => absurd q z)) (fun m' s' => ?_)
          have e := dn s'
          exact p_whence m' (m 69) e wf hd s h hs hh v (m (61 + s)) K (by omega) (by rw [s' 78 (by decide)]; exact eK) (fun i hi => by rw [s' 79 (by decide)]; exact (a5 i hi).symm) (by rw [s' 77 (by decide)]; exact hb) (by rw [e]; exact hM) cv (fun q => absurd q v0) (fun _ _ m' s => ⟨by rw [c2], s⟩) (fun _ q => absurd q z)
  · exact OPr_err I (by decide) (by decide) (by decide) (e_whence0 m a b v (by rw [hT.1]; exact c)) (f_whence0 _ a b v (fun q => c ⟨q.1, (isH_c wf).mpr ((isH_m wf).mp (by have := q.2.1; rw [errC_o (by decide)] at this; exact this)), q.2.2⟩))
end O27
