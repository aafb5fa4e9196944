theorem nb_m1 {x : Int32} {N : Nat} (h : nb x N) (hN : N ≤ 2 ^ 31) : x ≠ -1 := by
  obtain ⟨j, h1, rfl⟩ := h
  intro q
  have := nI_pos (n := j) (by omega)
  rw [q] at this
  exact this (by decide)
theorem shiN_0 {e : Nat → Int32} : shiN e 0 = e := by
  funext k
  show (if k = 4 then e 4 else ppu _ 0 _ k) = e k
  rw [ppu_0]
  by_cases q : k = 4
  · rw [if_pos q, q]
  · rw [if_neg q]
section MD2
variable {l : Launch} {g : Gv}
set_option maxRecDepth 100000 in
theorem lp_day2 {Q : Option Value → Mem → Prop} (d : Nat → Int32) (w : WF d) (come : Int32) (m0 : Mem) (kk : ∀ m' o, m' 69 = ppu (car d come) (hn d) d → Sm [69, 73, 75] m0 m' → J l g 4 mX12_dayGoes 154 [some (rf g 68), some (.int come), some (.int (nI (hn d))), o] [] m' Q) : ∀ (k h : Nat) (m : Mem) (o : Option Value), h + k = hn d → m 69 = ppu (car d come) h (ppu (car1 d come) (hn d) d) → Sm [69, 73, 75] m0 m → J l g 4 mX12_dayGoes 90 [some (rf g 68), some (.int come), some (.int (nI h)), o] [] m Q := by
  have wn := w.n
  intro k
  induction k with
  | zero =>
    intro h m o e hm hs
    have e : h = hn d := by omega
    subst e
    refine j_iload2 91 dX12_dayGoes_90 rfl ?_
    refine j_aload0 92 dX12_dayGoes_91 rfl ?_
    refine j_getR 95 dX12_dayGoes_92 rfl fl_X12_7 rfl rfl ?_
    refine j_iconst 96 (v := 0) dX12_dayGoes_95 rfl rfl ?_
    refine j_iald 97 0 rfl (by first | assumption | decide | omega) dX12_dayGoes_96 rfl rfl ?_
    refine j_cmp_ge 154 100 dX12_dayGoes_97 rfl rfl (fun h97 => ?_) (fun h97 => absurd (by rw [hm, ppu_lo (by decide), ppu_lo (by decide), wn.2]; exact Int32.le_refl _) h97)
    exact kk m o (by rw [hm, ppu_ppu]) hs
  | succ k ih =>
    intro h m o e hm hs
    have e2 : nI h + 1 = nI (h + 1) := nI_1 h
    have hh : h < 8 := by omega
    have hw := w.hw hh
    have ef : ∀ r, r < 6 → hf (m 69) h r = car1 d come h r := fun r hr => by rw [hm, ppu_at hr, ppu_hf hr, if_pos (by omega)]
    have el : ∀ i, i < 40 → m 69 i = d i := fun i hi => by rw [hm, ppu_lo hi, ppu_lo hi]
    have ee : ∀ r, r < 6 → hf (ppu (car1 d come) (hn d) d) h r = car1 d come h r := fun r hr => by rw [ppu_hf hr, if_pos (by omega)]
    by_cases hd : hf d h 3 = 0
    · have e4 : car1 d come h 4 = itT d (drN d come h).toNatClampNeg (hf d h 4) := if_pos ⟨rfl, hd⟩
      refine j_iload2 91 dX12_dayGoes_90 rfl ?_
      refine j_aload0 92 dX12_dayGoes_91 rfl ?_
      refine j_getR 95 dX12_dayGoes_92 rfl fl_X12_7 rfl rfl ?_
      refine j_iconst 96 (v := 0) dX12_dayGoes_95 rfl rfl ?_
      refine j_iald 97 0 rfl (by first | assumption | decide | omega) dX12_dayGoes_96 rfl rfl ?_
      refine j_cmp_ge 154 100 dX12_dayGoes_97 rfl rfl (fun h97 => absurd h97 (by rw [el 0 (by decide), wn.2]; exact nI_ge (by omega) (by omega))) (fun h97 => ?_)
      refine j_aload0 101 dX12_dayGoes_100 rfl ?_
      refine j_iload2 102 dX12_dayGoes_101 rfl ?_
      refine j_iconst 103 (v := 4) dX12_dayGoes_102 rfl rfl ?_
      refine j_vi2f 106 dX12_dayGoes_103 rfl rfl cl_X12_146 rfl rfl (c_of m h 4 hh (by decide)) ?_
      refine j_iconst 107 (v := -1) dX12_dayGoes_106 rfl rfl ?_
      refine j_cmp_ne 148 110 dX12_dayGoes_107 rfl rfl (fun h107 => ?_) (fun h107 => absurd h107 (by rw [ef 4 (by decide), e4]; exact nb_m1 (itT_nb (fun i hi => w.to hi) _ _ (hw.2.2.2.2.1 hd)) (by decide)))
      refine j_iinc2 151 (1) dX12_dayGoes_148 rfl rfl rfl rfl ?_
      refine j_goto 90 dX12_dayGoes_151 rfl ?_
      rw [e2]
      refine ih (h + 1) _ _ (by omega) ?_ hs
      rw [hm]
      refine ppu_same (fun r hr => ?_)
      rw [ee r hr]
      unfold car car1
      rw [if_pos hd]
      by_cases q : r = 4
      · rw [if_pos q, if_pos ⟨q, hd⟩]
      · rw [if_neg q, if_neg (fun z => q z.1)]
    · have e1 : ∀ r, car1 d come h r = hf d h r := fun r => if_neg (fun z => hd z.2)
      have fin : ∀ v : Int32, v = (if hf d h 3 - 1 = 0 then hf d h 2 else -1) → J l g 4 mX12_dayGoes 90 [some (rf g 68), some (.int come), some (.int (nI h + 1)), o] [] (up2 (up2 m 69 (40 + 6 * h + 3) (hf (m 69) h 3 - 1)) 69 (40 + 6 * h + 4) v) Q := by
        intro v hv
        rw [e2]
        refine ih (h + 1) _ _ (by omega) ?_ ((hs.up (by decide)).up (by decide))
        refine ppu_next (fun r hr => ?_) (fun k hk => ?_)
        · show up2 (up2 m 69 (40 + 6 * h + 3) (hf (m 69) h 3 - 1)) 69 (40 + 6 * h + 4) v 69 (40 + 6 * h + r) = _
          rw [up2_cell, up2_cell]
          unfold car
          rw [if_neg hd]
          by_cases q4 : r = 4
          · rw [if_pos (by omega), if_neg (by omega), if_pos q4, hv]
          · rw [if_neg (by omega)]
            by_cases q3 : r = 3
            · rw [if_pos (by omega), if_pos q3, ef 3 (by decide), e1]
            · rw [if_neg (by omega), if_neg q3, if_neg q4]
              exact (ef r hr).trans (e1 r)
        · rw [up2_cell, up2_cell, if_neg (by omega), if_neg (by omega), hm]
      have f3 : hf (up2 m 69 (40 + 6 * h + 3) (hf (m 69) h 3 - 1) 69) h 3 = hf d h 3 - 1 := by show up2 m 69 (40 + 6 * h + 3) (hf (m 69) h 3 - 1) 69 (40 + 6 * h + 3) = _; rw [up2_s, ef 3 (by decide), e1]
      have f2 : hf (up2 m 69 (40 + 6 * h + 3) (hf (m 69) h 3 - 1) 69) h 2 = hf d h 2 := by show up2 m 69 (40 + 6 * h + 3) (hf (m 69) h 3 - 1) 69 (40 + 6 * h + 2) = _; rw [up2_k (by omega)]; exact (ef 2 (by decide)).trans (e1 2)
      refine j_iload2 91 dX12_dayGoes_90 rfl ?_
      refine j_aload0 92 dX12_dayGoes_91 rfl ?_
      refine j_getR 95 dX12_dayGoes_92 rfl fl_X12_7 rfl rfl ?_
      refine j_iconst 96 (v := 0) dX12_dayGoes_95 rfl rfl ?_
      refine j_iald 97 0 rfl (by first | assumption | decide | omega) dX12_dayGoes_96 rfl rfl ?_
      refine j_cmp_ge 154 100 dX12_dayGoes_97 rfl rfl (fun h97 => absurd h97 (by rw [el 0 (by decide), wn.2]; exact nI_ge (by omega) (by omega))) (fun h97 => ?_)
      refine j_aload0 101 dX12_dayGoes_100 rfl ?_
      refine j_iload2 102 dX12_dayGoes_101 rfl ?_
      refine j_iconst 103 (v := 4) dX12_dayGoes_102 rfl rfl ?_
      refine j_vi2f 106 dX12_dayGoes_103 rfl rfl cl_X12_146 rfl rfl (c_of m h 4 hh (by decide)) ?_
      refine j_iconst 107 (v := -1) dX12_dayGoes_106 rfl rfl ?_
      refine j_cmp_ne 148 110 dX12_dayGoes_107 rfl rfl (fun h107 => absurd h107 (fun q => q (by rw [ef 4 (by decide), e1]; exact hw.2.2.2.2.2.1 hd))) (fun h107 => ?_)
      refine j_aload0 111 dX12_dayGoes_110 rfl ?_
      refine j_iload2 112 dX12_dayGoes_111 rfl ?_
      refine j_iconst 113 (v := 3) dX12_dayGoes_112 rfl rfl ?_
      refine j_aload0 114 dX12_dayGoes_113 rfl ?_
      refine j_iload2 115 dX12_dayGoes_114 rfl ?_
      refine j_iconst 116 (v := 3) dX12_dayGoes_115 rfl rfl ?_
      refine j_vi2f 119 dX12_dayGoes_116 rfl rfl cl_X12_146 rfl rfl (c_of m h 3 hh (by decide)) ?_
      refine j_iconst 120 (v := 1) dX12_dayGoes_119 rfl rfl ?_
      refine j_isub 121 dX12_dayGoes_120 rfl ?_
      refine j_vi3v 124 dX12_dayGoes_121 rfl rfl cl_X12_164 rfl rfl (c_sets m h 3 _ hh (by decide)) ?_
      refine j_aload0 125 dX12_dayGoes_124 rfl ?_
      refine j_iload2 126 dX12_dayGoes_125 rfl ?_
      refine j_iconst 127 (v := 4) dX12_dayGoes_126 rfl rfl ?_
      refine j_aload0 128 dX12_dayGoes_127 rfl ?_
      refine j_iload2 129 dX12_dayGoes_128 rfl ?_
      refine j_vi1f 132 dX12_dayGoes_129 rfl rfl cl_X12_149 rfl rfl (c_misDust _ h hh) ?_
      refine j_if_eq_bz 144 135 dX12_dayGoes_132 rfl rfl (fun h132 => ?_) (fun h132 => ?_)
      · refine j_iconst 145 (v := -1) dX12_dayGoes_144 rfl rfl ?_
        refine j_vi3v 148 dX12_dayGoes_145 rfl rfl cl_X12_164 rfl rfl (c_sets _ h 4 _ hh (by decide)) ?_
        refine j_iinc2 151 (1) dX12_dayGoes_148 rfl rfl rfl rfl ?_
        refine j_goto 90 dX12_dayGoes_151 rfl ?_
        first | exact fin _ (by rw [if_neg (by rw [← f3]; exact h132)]) | exact fin _ (by rw [if_pos (by rw [← f3]; exact h132), f2])
      · refine j_aload0 136 dX12_dayGoes_135 rfl ?_
        refine j_iload2 137 dX12_dayGoes_136 rfl ?_
        refine j_iconst 138 (v := 2) dX12_dayGoes_137 rfl rfl ?_
        refine j_vi2f 141 dX12_dayGoes_138 rfl rfl cl_X12_146 rfl rfl (c_of _ h 2 hh (by decide)) ?_
        refine j_goto 145 dX12_dayGoes_141 rfl ?_
        refine j_vi3v 148 dX12_dayGoes_145 rfl rfl cl_X12_164 rfl rfl (c_sets _ h 4 _ hh (by decide)) ?_
        refine j_iinc2 151 (1) dX12_dayGoes_148 rfl rfl rfl rfl ?_
        refine j_goto 90 dX12_dayGoes_151 rfl ?_
        first | exact fin _ (by rw [if_neg (by rw [← f3]; exact h132)]) | exact fin _ (by rw [if_pos (by rw [← f3]; exact h132), f2])
set_option maxRecDepth 100000 in
theorem lp_day3 {Q : Option Value → Mem → Prop} (e : Nat → Int32) (w : WF e) (hdy : nb (e 1) 20000) (come : Int32) (m0 : Mem) (kk : ∀ m' o, m' 69 = shiF e → Sm [69, 73, 75] m0 m' → J l g 4 mX12_dayGoes 251 [some (rf g 68), some (.int come), some (.int (nI (hn e))), o] [] m' Q) : ∀ (k h : Nat) (m : Mem) (o : Option Value), h + k = hn e → m 69 = shiN e h → Sm [69, 73, 75] m0 m → J l g 4 mX12_dayGoes 156 [some (rf g 68), some (.int come), some (.int (nI h)), o] [] m Q := by
  have wn := w.n
  intro k
  induction k with
  | zero =>
    intro h m o eh hm hs
    have eh : h = hn e := by omega
    subst eh
    refine j_iload2 157 dX12_dayGoes_156 rfl ?_
    refine j_aload0 158 dX12_dayGoes_157 rfl ?_
    refine j_getR 161 dX12_dayGoes_158 rfl fl_X12_7 rfl rfl ?_
    refine j_iconst 162 (v := 0) dX12_dayGoes_161 rfl rfl ?_
    refine j_iald 163 0 rfl (by first | assumption | decide | omega) dX12_dayGoes_162 rfl rfl ?_
    refine j_cmp_ge 251 166 dX12_dayGoes_163 rfl rfl (fun h163 => ?_) (fun h163 => absurd (by rw [hm]; unfold shiN; rw [if_neg (by decide), ppu_lo (by decide), wn.2]; exact Int32.le_refl _) h163)
    exact kk m o hm hs
  | succ k ih =>
    intro h m o eh hm hs
    have e2 : nI h + 1 = nI (h + 1) := nI_1 h
    have hh : h < 8 := by omega
    have hw := w.hw hh
    have ef : ∀ r, r < 6 → hf (m 69) h r = hf e h r := fun r hr => by
      rw [hm]
      show (if 40 + 6 * h + r = 4 then glF e h else hf (ppu (liF e) h e) h r) = _
      rw [if_neg (by omega), ppu_at hr]
    have el : ∀ i, i < 40 → i ≠ 4 → m 69 i = e i := fun i hi h4 => by rw [hm]; show (if i = 4 then _ else _) = _; rw [if_neg h4, ppu_lo hi]
    have eh2 : ∀ i, 88 ≤ i → m 69 i = e i := fun i hi => by rw [hm]; show (if i = 4 then _ else _) = _; rw [if_neg (by omega), ppu_hi (by omega) hi]
    have ek : kN (m 69) h = kN e h := by show (hf (m 69) h 0).toNatClampNeg = _; rw [ef 0 (by decide)]
    have es : sunM (m 69) h = sunM e h := by
      unfold sunM
      rw [ef 3 (by decide), ef 4 (by decide), ef 2 (by decide)]
      refine el _ ?_ (by omega)
      by_cases q : hf e h 3 = 0
      · rw [if_pos q]; have : (hf e h 4).toNatClampNeg < 16 := (nb_cl (hw.2.2.2.2.1 q) (by decide)).1; omega
      · rw [if_neg q]; have : (hf e h 2).toNatClampNeg < 16 := (nb_cl hw.2.2.1 (by decide)).1; omega
    have es2 := sun_nb w hh
    have wL : nb (hf (m 69) h 2) 16 := by rw [ef 2 (by decide)]; exact hw.2.2.1
    have wA : hf (m 69) h 3 = 0 → nb (hf (m 69) h 4) 16 := by rw [ef 3 (by decide), ef 4 (by decide)]; exact hw.2.2.2.2.1
    have wK : nb (hf (m 69) h 0) 7 := by rw [ef 0 (by decide)]; exact hw.1
    refine j_iload2 157 dX12_dayGoes_156 rfl ?_
    refine j_aload0 158 dX12_dayGoes_157 rfl ?_
    refine j_getR 161 dX12_dayGoes_158 rfl fl_X12_7 rfl rfl ?_
    refine j_iconst 162 (v := 0) dX12_dayGoes_161 rfl rfl ?_
    refine j_iald 163 0 rfl (by first | assumption | decide | omega) dX12_dayGoes_162 rfl rfl ?_
    refine j_cmp_ge 251 166 dX12_dayGoes_163 rfl rfl (fun h163 => absurd h163 (by rw [el 0 (by decide) (by decide), wn.2]; exact nI_ge (by omega) (by omega))) (fun h163 => ?_)
    refine j_aload0 167 dX12_dayGoes_166 rfl ?_
    refine j_iload2 168 dX12_dayGoes_167 rfl ?_
    refine j_vi1f 171 dX12_dayGoes_168 rfl rfl cl_X12_149 rfl rfl (c_misDust m h hh) ?_
    refine j_if_eq_bz 245 174 dX12_dayGoes_171 rfl rfl (fun h171 => ?_) (fun h171 => ?_)
    · skip
      refine j_iinc2 248 (1) dX12_dayGoes_245 rfl rfl rfl rfl ?_
      refine j_goto 156 dX12_dayGoes_248 rfl ?_
      rw [e2]
      first
      | exact ih (h + 1) _ _ (by omega) (by
          rw [hm]
          funext k
          show (if k = 4 then glF e h else ppu (liF e) h e k) = (if k = 4 then glF e (h + 1) else ppu (liF e) (h + 1) e k)
          have q : ¬ hf e h 3 = 0 := by rw [← ef 3 (by decide)]; exact h171
          rw [show glF e (h + 1) = glF e h from if_neg q, ppu_same (fun r hr => by unfold liF; rw [if_neg (fun z => q z.2)])]) hs
      | refine ih (h + 1) _ _ (by omega) ?_ (((hs.trans (q200.mono (by decide))).up (by decide)).up (by decide))
        have q : hf e h 3 = 0 := by rw [← ef 3 (by decide)]; exact h171
        have g4 : m200 69 4 = glF e h := by rw [em, hm]; exact if_pos rfl
        have g5 : hf (m200 69) h 5 = hf e h 5 := by rw [em]; exact ef 5 (by decide)
        have e5 := ppu_set (f := liF e) (h := h) (r := 5) (d := e) (v := heldF (hf e h 5 + byF e h) 0 9999) (by decide) (by unfold liF; rw [if_pos ⟨rfl, q⟩]) (fun z _ hne => by unfold liF; rw [if_neg (fun y => hne y.1)])
        funext k
        rw [up2_cell]
        show _ = (if k = 4 then glF e (h + 1) else ppu (liF e) (h + 1) e k)
        by_cases q4 : k = 4
        · rw [if_pos q4, if_pos q4, up2_k (by omega), g4]
          show _ = (if hf e h 3 = 0 then heldF (glF e h + byF e h) 0 99999 else glF e h)
          rw [if_pos q]
        · rw [if_neg q4, if_neg q4, up2_cell, ← e5, em, hm]
          show (if k = 40 + 6 * h + 5 then _ else (if k = 4 then glF e h else ppu (liF e) h e k)) = (if k = 40 + 6 * h + 5 then _ else _)
          rw [if_neg q4]
          by_cases q5 : k = 40 + 6 * h + 5
          · rw [if_pos q5, if_pos q5]
            rw [em, hm] at g5
            rw [g5]
          · rw [if_neg q5, if_neg q5]
    · refine j_aload0 175 dX12_dayGoes_174 rfl ?_
      refine j_iconst 176 (v := 1) dX12_dayGoes_175 rfl rfl ?_
      refine j_aload0 177 dX12_dayGoes_176 rfl ?_
      refine j_iload2 178 dX12_dayGoes_177 rfl ?_
      refine j_aload0 179 dX12_dayGoes_178 rfl ?_
      refine j_iload2 180 dX12_dayGoes_179 rfl ?_
      refine j_vi1f 183 dX12_dayGoes_180 rfl rfl cl_X12_152 rfl rfl (c_msunOf m h hh wL wA) ?_
      refine j_vi2f 186 dX12_dayGoes_183 rfl rfl cl_X12_167 rfl rfl (c_mshines m h _ hh wK (by rw [es]; exact es2) (by rw [el 1 (by decide) (by decide)]; exact hdy)) ?_
      refine j_aload0 187 dX12_dayGoes_186 rfl ?_
      refine j_iload2 188 dX12_dayGoes_187 rfl ?_
      refine j_vi1f 191 dX12_dayGoes_188 rfl rfl cl_X12_152 rfl rfl (c_msunOf m h hh wL wA) ?_
      refine j_aload0 192 dX12_dayGoes_191 rfl ?_
      refine j_getR 195 dX12_dayGoes_192 rfl fl_X12_7 rfl rfl ?_
      refine j_iconst 196 (v := 1) dX12_dayGoes_195 rfl rfl ?_
      refine j_iald 197 1 rfl (by first | assumption | decide | omega) dX12_dayGoes_196 rfl rfl ?_
      refine j_bipush 199 (v := 24) dX12_dayGoes_197 rfl rfl ?_
      refine j_irm 200 dX12_dayGoes_199 rfl (by decide) ?_
      refine j_vi4s 203 dX12_dayGoes_200 rfl rfl cl_X12_142 rfl rfl (c_textG_1 m _ _ _ (TX_congr (by decide) eh2 w.t1)) (fun m200 q200 => ?_)
      refine j_top (z := byF e h) (by unfold byF; rw [tG_congr (by decide) eh2, ek, es, ef 1 (by decide), el 1 (by decide) (by decide)]) ?_
      have em : m200 69 = m 69 := q200 69 (by decide)
      refine j_istore3 204 dX12_dayGoes_203 rfl rfl rfl ?_
      refine j_aload0 205 dX12_dayGoes_204 rfl ?_
      refine j_iload2 206 dX12_dayGoes_205 rfl ?_
      refine j_iconst 207 (v := 5) dX12_dayGoes_206 rfl rfl ?_
      refine j_aload0 208 dX12_dayGoes_207 rfl ?_
      refine j_iload2 209 dX12_dayGoes_208 rfl ?_
      refine j_iconst 210 (v := 5) dX12_dayGoes_209 rfl rfl ?_
      refine j_vi2f 213 dX12_dayGoes_210 rfl rfl cl_X12_146 rfl rfl (c_of _ h 5 hh (by decide)) ?_
      refine j_iload3 214 dX12_dayGoes_213 rfl ?_
      refine j_iadd 215 dX12_dayGoes_214 rfl ?_
      refine j_iconst 216 (v := 0) dX12_dayGoes_215 rfl rfl ?_
      refine j_sipush 219 (v := 9999) dX12_dayGoes_216 rfl rfl ?_
      refine j_st3f 222 dX12_dayGoes_219 rfl rfl cl_X12_139 rfl (c_held _ _ 0 9999) ?_
      refine j_vi3v 225 dX12_dayGoes_222 rfl rfl cl_X12_164 rfl rfl (c_sets _ h 5 _ hh (by decide)) ?_
      refine j_aload0 226 dX12_dayGoes_225 rfl ?_
      refine j_getR 229 dX12_dayGoes_226 rfl fl_X12_7 rfl rfl ?_
      refine j_iconst 230 (v := 4) dX12_dayGoes_229 rfl rfl ?_
      refine j_aload0 231 dX12_dayGoes_230 rfl ?_
      refine j_getR 234 dX12_dayGoes_231 rfl fl_X12_7 rfl rfl ?_
      refine j_iconst 235 (v := 4) dX12_dayGoes_234 rfl rfl ?_
      refine j_iald 236 4 rfl (by decide) dX12_dayGoes_235 rfl rfl ?_
      refine j_iload3 237 dX12_dayGoes_236 rfl ?_
      refine j_iadd 238 dX12_dayGoes_237 rfl ?_
      refine j_iconst 239 (v := 0) dX12_dayGoes_238 rfl rfl ?_
      refine j_ldc 241 dX12_dayGoes_239 rfl kc_X12_170 ?_
      refine j_st3f 244 dX12_dayGoes_241 rfl rfl cl_X12_139 rfl (c_held _ _ 0 99999) ?_
      refine j_iast 245 4 rfl (by decide) dX12_dayGoes_244 rfl rfl ?_
      skip
      refine j_iinc2 248 (1) dX12_dayGoes_245 rfl rfl rfl rfl ?_
      refine j_goto 156 dX12_dayGoes_248 rfl ?_
      rw [e2]
      first
      | exact ih (h + 1) _ _ (by omega) (by
          rw [hm]
          funext k
          show (if k = 4 then glF e h else ppu (liF e) h e k) = (if k = 4 then glF e (h + 1) else ppu (liF e) (h + 1) e k)
          have q : ¬ hf e h 3 = 0 := by rw [← ef 3 (by decide)]; exact h171
          rw [show glF e (h + 1) = glF e h from if_neg q, ppu_same (fun r hr => by unfold liF; rw [if_neg (fun z => q z.2)])]) hs
      | refine ih (h + 1) _ _ (by omega) ?_ (((hs.trans (q200.mono (by decide))).up (by decide)).up (by decide))
        have q : hf e h 3 = 0 := by rw [← ef 3 (by decide)]; exact h171
        have g4 : m200 69 4 = glF e h := by rw [em, hm]; exact if_pos rfl
        have g5 : hf (m200 69) h 5 = hf e h 5 := by rw [em]; exact ef 5 (by decide)
        have e5 := ppu_set (f := liF e) (h := h) (r := 5) (d := e) (v := heldF (hf e h 5 + byF e h) 0 9999) (by decide) (by unfold liF; rw [if_pos ⟨rfl, q⟩]) (fun z _ hne => by unfold liF; rw [if_neg (fun y => hne y.1)])
        funext k
        rw [up2_cell]
        show _ = (if k = 4 then glF e (h + 1) else ppu (liF e) (h + 1) e k)
        by_cases q4 : k = 4
        · rw [if_pos q4, if_pos q4, up2_k (by omega), g4]
          show _ = (if hf e h 3 = 0 then heldF (glF e h + byF e h) 0 99999 else glF e h)
          rw [if_pos q]
        · rw [if_neg q4, if_neg q4, up2_cell, ← e5, em, hm]
          show (if k = 40 + 6 * h + 5 then _ else (if k = 4 then glF e h else ppu (liF e) h e k)) = (if k = 40 + 6 * h + 5 then _ else _)
          rw [if_neg q4]
          by_cases q5 : k = 40 + 6 * h + 5
          · rw [if_pos q5, if_pos q5]
            rw [em, hm] at g5
            rw [g5]
          · rw [if_neg q5, if_neg q5]
set_option maxRecDepth 100000 in
theorem lp_day4 {Q : Option Value → Mem → Prop} (e : Nat → Int32) (w : WF e) (come : Int32) (m0 : Mem) (o3 : Option Value) (kk : ∀ m', m' 69 = ppu (swp e) (hn e) e → Sm [69, 73, 75] m0 m' → J l g 4 mX12_dayGoes 323 [some (rf g 68), some (.int come), some (.int (nI (hn e))), o3] [] m' Q) : ∀ (k h : Nat) (m : Mem), h + k = hn e → m 69 = ppu (swp e) h e → Sm [69, 73, 75] m0 m → J l g 4 mX12_dayGoes 279 [some (rf g 68), some (.int come), some (.int (nI h)), o3] [] m Q := by
  have wn := w.n
  intro k
  induction k with
  | zero =>
    intro h m eh hm hs
    have eh : h = hn e := by omega
    subst eh
    refine j_iload2 280 dX12_dayGoes_279 rfl ?_
    refine j_aload0 281 dX12_dayGoes_280 rfl ?_
    refine j_getR 284 dX12_dayGoes_281 rfl fl_X12_7 rfl rfl ?_
    refine j_iconst 285 (v := 0) dX12_dayGoes_284 rfl rfl ?_
    refine j_iald 286 0 rfl (by first | assumption | decide | omega) dX12_dayGoes_285 rfl rfl ?_
    refine j_cmp_ge 323 289 dX12_dayGoes_286 rfl rfl (fun h286 => ?_) (fun h286 => absurd (by rw [hm, ppu_lo (by decide), wn.2]; exact Int32.le_refl _) h286)
    exact kk m hm hs
  | succ k ih =>
    intro h m eh hm hs
    have e2 : nI h + 1 = nI (h + 1) := nI_1 h
    have hh : h < 8 := by omega
    have hw := w.hw hh
    have ef : ∀ r, r < 6 → hf (m 69) h r = hf e h r := fun r hr => by rw [hm]; exact ppu_at hr
    have el : ∀ i, i < 40 → m 69 i = e i := fun i hi => by rw [hm]; exact ppu_lo hi
    have es : sunM (m 69) h = sunM e h := by
      unfold sunM
      rw [ef 3 (by decide), ef 4 (by decide), ef 2 (by decide)]
      refine el _ ?_
      by_cases q : hf e h 3 = 0
      · rw [if_pos q]; have : (hf e h 4).toNatClampNeg < 16 := (nb_cl (hw.2.2.2.2.1 q) (by decide)).1; omega
      · rw [if_neg q]; have : (hf e h 2).toNatClampNeg < 16 := (nb_cl hw.2.2.1 (by decide)).1; omega
    have wL : nb (hf (m 69) h 2) 16 := by rw [ef 2 (by decide)]; exact hw.2.2.1
    have wA : hf (m 69) h 3 = 0 → nb (hf (m 69) h 4) 16 := by rw [ef 3 (by decide), ef 4 (by decide)]; exact hw.2.2.2.2.1
    have same : ¬ (hf e h 3 = 0 ∧ sunM e h = 0) → m 69 = ppu (swp e) (h + 1) e := fun q => by
      rw [hm]; exact ppu_same (fun r hr => by unfold swp; rw [if_neg (fun z => q z.2)])
    refine j_iload2 280 dX12_dayGoes_279 rfl ?_
    refine j_aload0 281 dX12_dayGoes_280 rfl ?_
    refine j_getR 284 dX12_dayGoes_281 rfl fl_X12_7 rfl rfl ?_
    refine j_iconst 285 (v := 0) dX12_dayGoes_284 rfl rfl ?_
    refine j_iald 286 0 rfl (by first | assumption | decide | omega) dX12_dayGoes_285 rfl rfl ?_
    refine j_cmp_ge 323 289 dX12_dayGoes_286 rfl rfl (fun h286 => absurd h286 (by rw [el 0 (by decide), wn.2]; exact nI_ge (by omega) (by omega))) (fun h286 => ?_)
    refine j_aload0 290 dX12_dayGoes_289 rfl ?_
    refine j_iload2 291 dX12_dayGoes_290 rfl ?_
    refine j_vi1f 294 dX12_dayGoes_291 rfl rfl cl_X12_149 rfl rfl (c_misDust m h hh) ?_
    refine j_if_eq_bz 317 297 dX12_dayGoes_294 rfl rfl (fun h294 => ?_) (fun h294 => ?_)
    · refine j_iinc2 320 (1) dX12_dayGoes_317 rfl rfl rfl rfl ?_
      refine j_goto 279 dX12_dayGoes_320 rfl ?_
      rw [e2]
      first
      | exact ih (h + 1) _ (by omega) (same (fun q => h294 (by rw [ef 3 (by decide)]; exact q.1))) hs
      | exact ih (h + 1) _ (by omega) (same (fun q => h302 (by rw [es]; exact q.2))) hs
      | refine ih (h + 1) _ (by omega) ?_ (hs.up (by decide))
        rw [up2_row69, hm]
        refine ppu_set (by decide) ?_ (fun q _ hne => ?_)
        · unfold swp
          rw [if_pos ⟨rfl, by rw [← ef 3 (by decide)]; exact h294, by rw [← es]; exact h302⟩, ppu_at (by decide)]
        · unfold swp
          rw [if_neg (fun z => hne z.1)]
    · refine j_aload0 298 dX12_dayGoes_297 rfl ?_
      refine j_iload2 299 dX12_dayGoes_298 rfl ?_
      refine j_vi1f 302 dX12_dayGoes_299 rfl rfl cl_X12_152 rfl rfl (c_msunOf m h hh wL wA) ?_
      refine j_if_ne 317 305 dX12_dayGoes_302 rfl rfl (fun h302 => ?_) (fun h302 => ?_)
      · refine j_iinc2 320 (1) dX12_dayGoes_317 rfl rfl rfl rfl ?_
        refine j_goto 279 dX12_dayGoes_320 rfl ?_
        rw [e2]
        first
        | exact ih (h + 1) _ (by omega) (same (fun q => h294 (by rw [ef 3 (by decide)]; exact q.1))) hs
        | exact ih (h + 1) _ (by omega) (same (fun q => h302 (by rw [es]; exact q.2))) hs
        | refine ih (h + 1) _ (by omega) ?_ (hs.up (by decide))
          rw [up2_row69, hm]
          refine ppu_set (by decide) ?_ (fun q _ hne => ?_)
          · unfold swp
            rw [if_pos ⟨rfl, by rw [← ef 3 (by decide)]; exact h294, by rw [← es]; exact h302⟩, ppu_at (by decide)]
          · unfold swp
            rw [if_neg (fun z => hne z.1)]
      · refine j_aload0 306 dX12_dayGoes_305 rfl ?_
        refine j_iload2 307 dX12_dayGoes_306 rfl ?_
        refine j_iconst 308 (v := 4) dX12_dayGoes_307 rfl rfl ?_
        refine j_aload0 309 dX12_dayGoes_308 rfl ?_
        refine j_iload2 310 dX12_dayGoes_309 rfl ?_
        refine j_iconst 311 (v := 2) dX12_dayGoes_310 rfl rfl ?_
        refine j_vi2f 314 dX12_dayGoes_311 rfl rfl cl_X12_146 rfl rfl (c_of _ h 2 hh (by decide)) ?_
        refine j_vi3v 317 dX12_dayGoes_314 rfl rfl cl_X12_164 rfl rfl (c_sets _ h 4 _ hh (by decide)) ?_
        refine j_iinc2 320 (1) dX12_dayGoes_317 rfl rfl rfl rfl ?_
        refine j_goto 279 dX12_dayGoes_320 rfl ?_
        rw [e2]
        first
        | exact ih (h + 1) _ (by omega) (same (fun q => h294 (by rw [ef 3 (by decide)]; exact q.1))) hs
        | exact ih (h + 1) _ (by omega) (same (fun q => h302 (by rw [es]; exact q.2))) hs
        | refine ih (h + 1) _ (by omega) ?_ (hs.up (by decide))
          rw [up2_row69, hm]
          refine ppu_set (by decide) ?_ (fun q _ hne => ?_)
          · unfold swp
            rw [if_pos ⟨rfl, by rw [← ef 3 (by decide)]; exact h294, by rw [← es]; exact h302⟩, ppu_at (by decide)]
          · unfold swp
            rw [if_neg (fun z => hne z.1)]
set_option maxRecDepth 100000 in
theorem c_mday (m : Mem) (w : WF (m 69)) (hdy : nb (m 69 1) 19999) : JM l g 4 mX12_dayGoes [rf g 68] m (RS none (fun m' => m' 69 = dayF (m 69) ∧ Sm [69, 73, 75] m m')) := by
  refine JM_of (ls := [some (rf g 68), none, none, none]) pn_X12 rfl rfl ?_
  have wn := w.n
  have hcar : ∀ k, k < 40 → carF (m 69) k = m 69 k := fun k hk => ppu_lo hk
  have hdc : nb (carF (m 69) 1) 20000 := by rw [hcar 1 (by decide)]; obtain ⟨j, h1, h2⟩ := hdy; exact ⟨j, by omega, h2⟩
  have hnc : hn (carF (m 69)) = hn (m 69) := by show (carF (m 69) 0).toNatClampNeg = _; rw [hcar 0 (by decide)]
  have hns : hn (dyF (shiF (carF (m 69)))) = hn (m 69) := by show (shiF (carF (m 69)) 0).toNatClampNeg = _; unfold shiF shiN; rw [if_neg (by decide), ppu_lo (by decide)]; exact hnc
  have wsw := WF_dy (WF_shi (WF_car w))
  refine j_aload0 1 dX12_dayGoes_0 rfl ?_
  refine j_iconst 2 (v := 0) dX12_dayGoes_1 rfl rfl ?_
  refine j_aload0 3 dX12_dayGoes_2 rfl ?_
  refine j_getR 6 dX12_dayGoes_3 rfl fl_X12_7 rfl rfl ?_
  refine j_iconst 7 (v := 2) dX12_dayGoes_6 rfl rfl ?_
  refine j_iald 8 2 rfl (by first | assumption | decide | omega) dX12_dayGoes_7 rfl rfl ?_
  refine j_aload0 9 dX12_dayGoes_8 rfl ?_
  refine j_getR 12 dX12_dayGoes_9 rfl fl_X12_7 rfl rfl ?_
  refine j_iconst 13 (v := 1) dX12_dayGoes_12 rfl rfl ?_
  refine j_iald 14 1 rfl (by first | assumption | decide | omega) dX12_dayGoes_13 rfl rfl ?_
  refine j_bipush 16 (v := 24) dX12_dayGoes_14 rfl rfl ?_
  refine j_irm 17 dX12_dayGoes_16 rfl (by decide) ?_
  refine j_aload0 18 dX12_dayGoes_17 rfl ?_
  refine j_vi0f 21 dX12_dayGoes_18 rfl rfl cl_X12_158 rfl rfl (c_dusts m w) ?_
  refine j_vi4s 24 dX12_dayGoes_21 rfl rfl cl_X12_142 rfl rfl (c_textG_0 m _ _ _ w.t0) (fun m21 q21 => ?_)
  have em : m21 69 = m 69 := q21 69 (by decide)
  refine j_istore1 25 dX12_dayGoes_24 rfl rfl rfl ?_
  refine j_iconst 26 (v := 0) dX12_dayGoes_25 rfl rfl ?_
  refine j_istore2 27 dX12_dayGoes_26 rfl rfl rfl ?_
  refine lp_day1 (m 69) w _ (textG_nb0 _ _ _ _) m (fun m1 o1 r1 s1 => ?_) (hn (m 69)) 0 m21 none (Nat.zero_add _) (by rw [ppu_0, em]) (q21.mono (by decide))
  refine j_iconst 89 (v := 0) dX12_dayGoes_88 rfl rfl ?_
  refine j_istore2 90 dX12_dayGoes_89 rfl rfl rfl ?_
  refine lp_day2 (m 69) w _ m (fun m2 o2 r2 s2 => ?_) (hn (m 69)) 0 m1 o1 (Nat.zero_add _) (by rw [ppu_0, r1]) s1
  refine j_iconst 155 (v := 0) dX12_dayGoes_154 rfl rfl ?_
  refine j_istore2 156 dX12_dayGoes_155 rfl rfl rfl ?_
  have r2 : m2 69 = carF (m 69) := r2
  refine lp_day3 (carF (m 69)) (WF_car w) hdc _ m (fun m3 o3 r3 s3 => ?_) (hn (carF (m 69))) 0 m2 o2 (Nat.zero_add _) (by rw [r2, shiN_0]) s2
  have r4 : up2 m3 69 1 (m3 69 1 + 1) 69 = dyF (shiF (carF (m 69))) := by rw [up2_row69, r3]; rfl
  have s4 : Sm [69, 73, 75] m (up2 m3 69 1 (m3 69 1 + 1)) := s3.up (by decide)
  refine j_aload0 252 dX12_dayGoes_251 rfl ?_
  refine j_getR 255 dX12_dayGoes_252 rfl fl_X12_7 rfl rfl ?_
  refine j_iconst 256 (v := 1) dX12_dayGoes_255 rfl rfl ?_
  refine j_dup2 257 dX12_dayGoes_256 rfl rfl rfl ?_
  refine j_iald 258 1 rfl (by decide) dX12_dayGoes_257 rfl rfl ?_
  refine j_iconst 259 (v := 1) dX12_dayGoes_258 rfl rfl ?_
  refine j_iadd 260 dX12_dayGoes_259 rfl ?_
  refine j_iast 261 1 rfl (by decide) dX12_dayGoes_260 rfl rfl ?_
  generalize up2 m3 69 1 (m3 69 1 + 1) = m4 at r4 s4 ⊢
  refine j_aload0 262 dX12_dayGoes_261 rfl ?_
  refine j_getR 265 dX12_dayGoes_262 rfl fl_X12_7 rfl rfl ?_
  refine j_iconst 266 (v := 1) dX12_dayGoes_265 rfl rfl ?_
  refine j_iald 267 1 rfl (by decide) dX12_dayGoes_266 rfl rfl ?_
  refine j_aload0 268 dX12_dayGoes_267 rfl ?_
  refine j_getR 271 dX12_dayGoes_268 rfl fl_X12_7 rfl rfl ?_
  refine j_iconst 272 (v := 3) dX12_dayGoes_271 rfl rfl ?_
  refine j_iald 273 3 rfl (by decide) dX12_dayGoes_272 rfl rfl ?_
  refine j_irm 274 dX12_dayGoes_273 rfl (by rw [r4]; exact wsw.2.2.1.2) ?_
  refine j_if_ne 323 277 dX12_dayGoes_274 rfl rfl (fun h274 => ?_) (fun h274 => ?_)
  · refine j_vret dX12_dayGoes_323 rfl ?_
    exact ⟨rfl, by rw [r4]; unfold dayF swF; rw [if_neg (by rw [← r4]; exact h274)], s4⟩
  · refine j_iconst 278 (v := 0) dX12_dayGoes_277 rfl rfl ?_
    refine j_istore2 279 dX12_dayGoes_278 rfl rfl rfl ?_
    refine lp_day4 _ wsw _ m o3 (fun m5 r5 s5 => ?_) (hn (dyF (shiF (carF (m 69))))) 0 m4 (Nat.zero_add _) (by rw [ppu_0, r4]) s4
    refine j_vret dX12_dayGoes_323 rfl ?_
    exact ⟨rfl, by rw [r5]; unfold dayF swF; rw [if_pos (by rw [← r4]; exact h274)], s5⟩
end MD2
