theorem imin_held {v : Int32} {N M : Nat} (hN : N < 2 ^ 31) (hM : M < 2 ^ 31) (hv : nb v M) : imin (nI N) v = heldF v 0 (nI N) := by
  obtain ⟨j, hj, rfl⟩ := hv
  unfold imin heldF
  rw [if_neg (nI_pos (by omega))]
  by_cases h : nI j < nI N
  · rw [if_pos h, if_neg (Int32.lt_asymm h)]
  · rw [if_neg h]
    by_cases h2 : nI N < nI j
    · rw [if_pos h2]
    · rw [if_neg h2]
      exact Int32.le_antisymm (Int32.not_lt.mp h) (Int32.not_lt.mp h2)
theorem nb_add {x z : Int32} {a b : Nat} (hx : nb x a) (hz : nb z b) : nb (x + z) (a + b) := by
  obtain ⟨i, hi, rfl⟩ := hx
  obtain ⟨j, hj, rfl⟩ := hz
  exact ⟨i + j, by omega, nI_add i j⟩
section CD
variable {l : Launch} {g : Gv}
set_option maxRecDepth 100000 in
theorem lp_carry_9 {Q : Option Value → Mem → Prop} (d : Nat → Int32) (w : WF d) (come : Int32) (hcm : nb come 10) (m0 : Mem) (kk : ∀ m', TR 9 m' (ppu (car d come) (hn d) d) → Sm [15, 16] m0 m' → Q none m') : ∀ (k h : Nat) (m : Mem), h + k = hn d → TR 9 m (ppu (car d come) h d) → Sm [15, 16] m0 m → J l g 3 mX10_carry 2 [some (rf g 9), some (.int come), some (.int (nI h))] [] m Q := by
  have wn := w.n
  intro k
  induction k with
  | zero =>
    intro h m e hT hs
    have e : h = hn d := by omega
    subst e
    refine j_iload2 3 dX10_carry_2 rfl ?_
    refine j_aload0 4 dX10_carry_3 rfl ?_
    refine j_getI 7 dX10_carry_4 rfl fl_X10_53 rfl rfl ?_
    refine j_cmp_ge 51 10 dX10_carry_7 rfl rfl (fun h7 => ?_) (fun h7 => absurd (by rw [hT.1, ppu_lo (by decide), wn.2]; exact Int32.le_refl _) h7)
    refine j_vret dX10_carry_51 rfl ?_
    exact kk m hT hs
  | succ k ih =>
    intro h m e hT hs
    have e2 : nI h + 1 = nI (h + 1) := nI_1 h
    have hh : h < 8 := by omega
    have hw := w.hw hh
    obtain ⟨t9, t10, t11, t12, t13, ts, tt, th⟩ := id hT
    have ef : ∀ r, r < 6 → m (9 + 3 + r) h = hf d h r := fun r hr => by rw [th h hh r hr, ppu_at hr]
    have f0 : m 12 h = hf d h 0 := ef 0 (by decide)
    have f1 : m 13 h = hf d h 1 := ef 1 (by decide)
    have f2 : m 14 h = hf d h 2 := ef 2 (by decide)
    have f3 : m 15 h = hf d h 3 := ef 3 (by decide)
    have f4 : m 16 h = hf d h 4 := ef 4 (by decide)
    have fd : m 9 13 = d 1 := by rw [t13, ppu_lo (by decide)]
    have ek : hf d h 0 = nI (kN d h) := (nb_cl hw.1 (by decide)).2
    have eto : ∀ i, i < 16 → m 11 i = d (24 + i) := fun i hi => by have := tt i hi; rw [ppu_lo (by omega)] at this; exact this
    obtain ⟨c, hc, ec⟩ := drF_nb (k := kN d h) (dy := d 1) hcm hw.2.1
    refine j_iload2 3 dX10_carry_2 rfl ?_
    refine j_aload0 4 dX10_carry_3 rfl ?_
    refine j_getI 7 dX10_carry_4 rfl fl_X10_53 rfl rfl ?_
    refine j_cmp_ge 51 10 dX10_carry_7 rfl rfl (fun h7 => absurd h7 (by rw [t9, ppu_lo (by decide), wn.2]; exact nI_ge (by omega) (by omega))) (fun h7 => ?_)
    refine j_aload0 11 dX10_carry_10 rfl ?_
    refine j_iload2 12 dX10_carry_11 rfl ?_
    refine j_vi1f 15 dX10_carry_12 rfl rfl cl_X10_86 rfl rfl (c_isDust_9 m h hh) ?_
    refine j_if_eq_bz 32 18 dX10_carry_15 rfl rfl (fun h15 => ?_) (fun h15 => ?_)
    · refine j_aload0 33 dX10_carry_32 rfl ?_
      refine j_iload2 34 dX10_carry_33 rfl ?_
      refine j_aload0 35 dX10_carry_34 rfl ?_
      refine j_getR 38 dX10_carry_35 rfl fl_X10_27 rfl rfl ?_
      refine j_iload2 39 dX10_carry_38 rfl ?_
      refine j_iald 40 _ rfl hh dX10_carry_39 rfl rfl ?_
      refine j_iconst 41 (v := 1) dX10_carry_40 rfl rfl ?_
      refine j_isub 42 dX10_carry_41 rfl ?_
      refine j_vi2v 45 dX10_carry_42 rfl rfl cl_X10_62 rfl rfl (c_setLeft_9 m h _ hh) ?_
      refine j_iinc2 48 (1) dX10_carry_45 rfl rfl rfl rfl ?_
      refine j_goto 2 dX10_carry_48 rfl ?_
      rw [e2]
      first
      | refine ih (h + 1) _ (by omega) (TR_next hT (up2_r (by decide)) (up2_r (by decide)) (up2_r (by decide)) (fun r hr i hi hne => up2_k hne) (fun r hr => ?_)) (hs.up (by decide))
        have hd : hf d h 3 = 0 := by rw [← f3]; exact h15
        unfold car
        rw [if_pos hd]
        by_cases q : r = 4
        · subst q
          rw [if_pos rfl]
          show up2 m 16 h _ 16 h = _
          rw [up2_s, f4]
          unfold drN
          rw [ec, nI_clamp (by omega)]
        · rw [if_neg q, up2_a (by omega)]
          exact ef r hr
      | refine ih (h + 1) _ (by omega) (TR_next hT ((up2_r (by decide)).trans (up2_r (by decide))) ((up2_r (by decide)).trans (up2_r (by decide))) ((up2_r (by decide)).trans (up2_r (by decide))) (fun r hr i hi hne => (up2_k hne).trans (up2_k hne)) (fun r hr => ?_)) ((hs.up (by decide)).up (by decide))
        have hd : ¬ hf d h 3 = 0 := by rw [← f3]; exact h15
        unfold car
        rw [if_neg hd]
        by_cases q3 : r = 3
        · subst q3
          rw [if_pos rfl]
          show up2 (up2 m 15 h _) 16 h _ 15 h = _
          rw [up2_a (by decide), up2_s, f3]
        · rw [if_neg q3]
          by_cases q : r = 4
          · subst q
            rw [if_pos rfl]
            show up2 (up2 m 15 h _) 16 h _ 16 h = _
            rw [up2_s, f3, f2]
          · rw [if_neg q, up2_a (by omega), up2_a (by omega)]
            exact ef r hr
    · refine j_aload0 19 dX10_carry_18 rfl ?_
      refine j_iload2 20 dX10_carry_19 rfl ?_
      refine j_aload0 21 dX10_carry_20 rfl ?_
      refine j_iload2 22 dX10_carry_21 rfl ?_
      refine j_iload1 23 dX10_carry_22 rfl ?_
      refine j_vi2f 26 dX10_carry_23 rfl rfl cl_X10_133 rfl rfl (c_driftsOf_9 m h (kN d h) come hh (nb_cl hw.1 (by decide)).1 (by rw [f0]; exact ek)) ?_
      have hdust : hf d h 3 = 0 := by rw [← f3]; exact h15
      refine j_top (z := nI c) (by rw [f1, fd]; exact ec) ?_
      refine j_vi2v 29 dX10_carry_26 rfl rfl cl_X10_137 rfl rfl (c_drift_9 m d w h c hh (by omega) eto (by rw [f4]; exact hw.2.2.2.2.1 hdust)) ?_
      refine j_goto 45 dX10_carry_29 rfl ?_
      refine j_iinc2 48 (1) dX10_carry_45 rfl rfl rfl rfl ?_
      refine j_goto 2 dX10_carry_48 rfl ?_
      rw [e2]
      first
      | refine ih (h + 1) _ (by omega) (TR_next hT (up2_r (by decide)) (up2_r (by decide)) (up2_r (by decide)) (fun r hr i hi hne => up2_k hne) (fun r hr => ?_)) (hs.up (by decide))
        have hd : hf d h 3 = 0 := by rw [← f3]; exact h15
        unfold car
        rw [if_pos hd]
        by_cases q : r = 4
        · subst q
          rw [if_pos rfl]
          show up2 m 16 h _ 16 h = _
          rw [up2_s, f4]
          unfold drN
          rw [ec, nI_clamp (by omega)]
        · rw [if_neg q, up2_a (by omega)]
          exact ef r hr
      | refine ih (h + 1) _ (by omega) (TR_next hT ((up2_r (by decide)).trans (up2_r (by decide))) ((up2_r (by decide)).trans (up2_r (by decide))) ((up2_r (by decide)).trans (up2_r (by decide))) (fun r hr i hi hne => (up2_k hne).trans (up2_k hne)) (fun r hr => ?_)) ((hs.up (by decide)).up (by decide))
        have hd : ¬ hf d h 3 = 0 := by rw [← f3]; exact h15
        unfold car
        rw [if_neg hd]
        by_cases q3 : r = 3
        · subst q3
          rw [if_pos rfl]
          show up2 (up2 m 15 h _) 16 h _ 15 h = _
          rw [up2_a (by decide), up2_s, f3]
        · rw [if_neg q3]
          by_cases q : r = 4
          · subst q
            rw [if_pos rfl]
            show up2 (up2 m 15 h _) 16 h _ 16 h = _
            rw [up2_s, f3, f2]
          · rw [if_neg q, up2_a (by omega), up2_a (by omega)]
            exact ef r hr
set_option maxRecDepth 100000 in
theorem c_carry_9 (m : Mem) (d : Nat → Int32) (w : WF d) (come : Int32) (hcm : nb come 10) (hT : TR 9 m d) : JM l g 3 mX10_carry [rf g 9, .int come] m (RS none (fun m' => TR 9 m' (ppu (car d come) (hn d) d) ∧ Sm [15, 16] m m')) := by
  refine JM_of (ls := [some (rf g 9), some (.int come), none]) pn_X10 rfl rfl ?_
  refine j_iconst 1 (v := 0) dX10_carry_0 rfl rfl ?_
  refine j_istore2 2 dX10_carry_1 rfl rfl rfl ?_
  exact lp_carry_9 d w come hcm m (fun m' a b => ⟨rfl, a, b⟩) _ 0 m (Nat.zero_add _) (by rw [ppu_0]; exact hT) Sm.rf
set_option maxRecDepth 100000 in
theorem lp_shine_9 {Q : Option Value → Mem → Prop} (e : Nat → Int32) (w : WF e) (m0 : Mem) (hl0 : LR m0 43 e 1) (kk : ∀ m', TR 9 m' (shiF e) → Sm [9, 17, 45] m0 m' → Q none m') : ∀ (k h : Nat) (m : Mem) (o : Option Value), h + k = hn e → TR 9 m (shiN e h) → Sm [9, 17, 45] m0 m → J l g 3 mX10_shine 2 [some (rf g 9), some (rf g 43), some (.int (nI h)), o] [] m Q := by
  have wn := w.n
  intro k
  induction k with
  | zero =>
    intro h m o eh hT hs
    have eh : h = hn e := by omega
    subst eh
    refine j_iload2 3 dX10_shine_2 rfl ?_
    refine j_aload0 4 dX10_shine_3 rfl ?_
    refine j_getI 7 dX10_shine_4 rfl fl_X10_53 rfl rfl ?_
    refine j_cmp_ge 92 10 dX10_shine_7 rfl rfl (fun h7 => ?_) (fun h7 => absurd (by rw [hT.1]; unfold shiN; rw [if_neg (by decide), ppu_lo (by decide), wn.2]; exact Int32.le_refl _) h7)
    refine j_vret dX10_shine_92 rfl ?_
    exact kk m hT hs
  | succ k ih =>
    intro h m o eh hT hs
    have e2 : nI h + 1 = nI (h + 1) := nI_1 h
    have hh : h < 8 := by omega
    have hw := w.hw hh
    obtain ⟨t9, t10, t11, t12, t13, ts, tt, th⟩ := id hT
    have el : ∀ i, i < 40 → i ≠ 4 → shiN e h i = e i := fun i hi h4 => by show (if i = 4 then _ else _) = _; rw [if_neg h4, ppu_lo hi]
    have ef : ∀ r, r < 6 → m (9 + 3 + r) h = hf e h r := fun r hr => by
      rw [th h hh r hr]
      show (if 40 + 6 * h + r = 4 then glF e h else hf (ppu (liF e) h e) h r) = _
      rw [if_neg (by omega), ppu_at hr]
    have f0 : m 12 h = hf e h 0 := ef 0 (by decide)
    have f1 : m 13 h = hf e h 1 := ef 1 (by decide)
    have f3 : m 15 h = hf e h 3 := ef 3 (by decide)
    have f4 : m 16 h = hf e h 4 := ef 4 (by decide)
    have f5 : m 17 h = hf e h 5 := ef 5 (by decide)
    have fd : m 9 13 = e 1 := by rw [t13, el 1 (by decide) (by decide)]
    have fg : m 9 12 = glF e h := by rw [t12]; exact if_pos rfl
    have ek : hf e h 0 = nI (kN e h) := (nb_cl hw.1 (by decide)).2
    have hl : LR m 43 e 1 := by
      have a1 := hs 43 (by decide)
      have a2 := hs 44 (by decide)
      exact ⟨by rw [a1]; exact hl0.1, by rw [a1]; exact hl0.2.1, fun j hj => by show m 44 j = _; rw [a2]; exact hl0.2.2 j hj⟩
    have hby : nb (byF e h) 100 := textG_nb1 _ _ _ _
    by_cases hd : hf e h 3 = 0
    · obtain ⟨j, hj, ej⟩ := hw.2.2.2.2.1 hd
      have ej : hf e h 4 = nI j := ej
      have fs : m 10 j = sunM e h := by
        unfold sunM
        rw [if_pos hd, ej, nI_clamp (by omega)]
        have := ts j hj
        rw [el _ (by omega) (by omega)] at this
        exact this
      refine j_iload2 3 dX10_shine_2 rfl ?_
      refine j_aload0 4 dX10_shine_3 rfl ?_
      refine j_getI 7 dX10_shine_4 rfl fl_X10_53 rfl rfl ?_
      refine j_cmp_ge 92 10 dX10_shine_7 rfl rfl (fun h7 => absurd h7 (by rw [t9, el 0 (by decide) (by decide), wn.2]; exact nI_ge (by omega) (by omega))) (fun h7 => ?_)
      refine j_aload0 11 dX10_shine_10 rfl ?_
      refine j_iload2 12 dX10_shine_11 rfl ?_
      refine j_vi1f 15 dX10_shine_12 rfl rfl cl_X10_86 rfl rfl (c_isDust_9 m h hh) ?_
      refine j_if_eq_bz 86 18 dX10_shine_15 rfl rfl (fun h15 => absurd h15 (fun q => q (by rw [f3]; exact hd))) (fun h15 => ?_)
      refine j_aload1 19 dX10_shine_18 rfl ?_
      refine j_aload0 20 dX10_shine_19 rfl ?_
      refine j_iload2 21 dX10_shine_20 rfl ?_
      refine j_aload0 22 dX10_shine_21 rfl ?_
      refine j_getR 25 dX10_shine_22 rfl fl_X10_30 rfl rfl ?_
      refine j_iload2 26 dX10_shine_25 rfl ?_
      refine j_iald 27 _ rfl (by first | assumption | decide | omega) dX10_shine_26 rfl rfl ?_
      refine j_top (f4.trans ej) ?_
      refine j_vi2f 30 dX10_shine_27 rfl rfl cl_X10_140 rfl rfl (c_shinesOf_9 m h (kN e h) j hh (nb_cl hw.1 (by decide)).1 hj (by rw [f0]; exact ek)) ?_
      refine j_aload0 31 dX10_shine_30 rfl ?_
      refine j_aload0 32 dX10_shine_31 rfl ?_
      refine j_getR 35 dX10_shine_32 rfl fl_X10_30 rfl rfl ?_
      refine j_iload2 36 dX10_shine_35 rfl ?_
      refine j_iald 37 _ rfl (by first | assumption | decide | omega) dX10_shine_36 rfl rfl ?_
      refine j_top (f4.trans ej) ?_
      refine j_vi1f 40 dX10_shine_37 rfl rfl cl_X10_76 rfl rfl (c_sunOf_9 m j hj) ?_
      refine j_aload0 41 dX10_shine_40 rfl ?_
      refine j_getI 44 dX10_shine_41 rfl fl_X10_59 rfl rfl ?_
      refine j_bipush 46 (v := 24) dX10_shine_44 rfl rfl ?_
      refine j_irm 47 dX10_shine_46 rfl (by decide) ?_
      refine j_vi3s 50 dX10_shine_47 rfl rfl cl_X10_115 rfl rfl (c_gives_43 m e _ _ _ w.t1 hl) (fun m47 q47 => ?_)
      refine j_top (z := byF e h) (by unfold byF; rw [fs, f1, fd]) ?_
      have g5 : m47 17 h = hf e h 5 := by rw [q47 17 (by decide)]; exact f5
      have gg : m47 9 12 = glF e h := by rw [q47 9 (by decide)]; exact fg
      refine j_istore3 51 dX10_shine_50 rfl rfl rfl ?_
      refine j_aload0 52 dX10_shine_51 rfl ?_
      refine j_getR 55 dX10_shine_52 rfl fl_X10_33 rfl rfl ?_
      refine j_iload2 56 dX10_shine_55 rfl ?_
      refine j_sipush 59 (v := 9999) dX10_shine_56 rfl rfl ?_
      refine j_aload0 60 dX10_shine_59 rfl ?_
      refine j_getR 63 dX10_shine_60 rfl fl_X10_33 rfl rfl ?_
      refine j_iload2 64 dX10_shine_63 rfl ?_
      refine j_iald 65 _ rfl hh dX10_shine_64 rfl rfl ?_
      refine j_iload3 66 dX10_shine_65 rfl ?_
      refine j_iadd 67 dX10_shine_66 rfl ?_
      refine j_mmin 70 dX10_shine_67 rfl rfl cl_X10_143 rfl ?_
      refine j_iast 71 _ rfl hh dX10_shine_70 rfl rfl ?_
      refine j_aload0 72 dX10_shine_71 rfl ?_
      refine j_ldc 74 dX10_shine_72 rfl kc_X10_148 ?_
      refine j_aload0 75 dX10_shine_74 rfl ?_
      refine j_getI 78 dX10_shine_75 rfl fl_X10_56 rfl rfl ?_
      refine j_iload3 79 dX10_shine_78 rfl ?_
      refine j_iadd 80 dX10_shine_79 rfl ?_
      refine j_mmin 83 dX10_shine_80 rfl rfl cl_X10_143 rfl ?_
      refine j_putI 86 dX10_shine_83 rfl fp_X10_56 rfl rfl ?_
      refine j_iinc2 89 (1) dX10_shine_86 rfl rfl rfl rfl ?_
      refine j_goto 2 dX10_shine_89 rfl ?_
      rw [e2]
      refine ih (h + 1) _ _ (by omega) ?_ (((hs.trans (q47.mono (by decide))).up (by decide)).up (by decide))
      rw [g5, up2_a (by decide), gg]
      rw [show imin 9999 (hf e h 5 + byF e h) = heldF (hf e h 5 + byF e h) 0 9999 from imin_held (N := 9999) (by decide) (by decide) (nb_add hw.2.2.2.2.2.2 hby), show imin 99999 (glF e h + byF e h) = heldF (glF e h + byF e h) 0 99999 from imin_held (N := 99999) (by decide) (by decide) (nb_add (gl_nb w h) hby)]
      have hT2 : TR 9 m47 (shiN e h) := TR_same hT (fun b b1 b2 => q47 b (by simp; omega))
      obtain ⟨s9, s10, s11, s12, s13, ss, st, sh⟩ := hT2
      have ln : ∀ i, i ≠ 4 → i < 40 → shiN e (h + 1) i = shiN e h i := fun i h4 hi => by show (if i = 4 then _ else _) = (if i = 4 then _ else _); rw [if_neg h4, if_neg h4, ppu_lo hi, ppu_lo hi]
      refine ⟨?_, ?_, ?_, ?_, ?_, fun i hi => ?_, fun i hi => ?_, fun i hi r hr => ?_⟩
      · rw [up2_k (by decide), up2_a (by decide), ln 0 (by decide) (by decide)]; exact s9
      · rw [up2_k (by decide), up2_a (by decide), ln 2 (by decide) (by decide)]; exact s10
      · rw [up2_k (by decide), up2_a (by decide), ln 3 (by decide) (by decide)]; exact s11
      · rw [up2_s]
        show _ = (if hf e h 3 = 0 then heldF (glF e h + byF e h) 0 99999 else glF e h)
        rw [if_pos hd]
      · rw [up2_k (by decide), up2_a (by decide), ln 1 (by decide) (by decide)]; exact s13
      · rw [up2_a (by decide), up2_a (by decide), ln _ (by omega) (by omega)]; exact ss i hi
      · rw [up2_a (by decide), up2_a (by decide), ln _ (by omega) (by omega)]; exact st i hi
      · show _ = (if 40 + 6 * i + r = 4 then _ else hf (ppu (liF e) (h + 1) e) i r)
        rw [if_neg (by omega), ppu_hf hr, up2_a (by omega)]
        have shi : m47 (9 + 3 + r) i = hf (ppu (liF e) h e) i r := by
          rw [sh i hi r hr]
          show (if 40 + 6 * i + r = 4 then _ else _) = _
          rw [if_neg (by omega)]
        rw [ppu_hf hr] at shi
        by_cases q : i = h
        · subst q
          rw [if_neg (by omega)] at shi
          rw [if_pos (by omega)]
          unfold liF
          by_cases q5 : r = 5
          · subst q5
            rw [if_pos ⟨rfl, hd⟩]
            show up2 m47 17 i _ 17 i = _
            rw [up2_s]
          · rw [if_neg (fun z => q5 z.1), up2_a (by omega)]
            exact shi
        · rw [up2_k q, shi]
          by_cases z : i < h
          · rw [if_pos z, if_pos (by omega)]
          · rw [if_neg z, if_neg (by omega)]
    · refine j_iload2 3 dX10_shine_2 rfl ?_
      refine j_aload0 4 dX10_shine_3 rfl ?_
      refine j_getI 7 dX10_shine_4 rfl fl_X10_53 rfl rfl ?_
      refine j_cmp_ge 92 10 dX10_shine_7 rfl rfl (fun h7 => absurd h7 (by rw [t9, el 0 (by decide) (by decide), wn.2]; exact nI_ge (by omega) (by omega))) (fun h7 => ?_)
      refine j_aload0 11 dX10_shine_10 rfl ?_
      refine j_iload2 12 dX10_shine_11 rfl ?_
      refine j_vi1f 15 dX10_shine_12 rfl rfl cl_X10_86 rfl rfl (c_isDust_9 m h hh) ?_
      refine j_if_eq_bz 86 18 dX10_shine_15 rfl rfl (fun h15 => ?_) (fun h15 => absurd h15 (fun q => hd (by rw [← f3]; exact q)))
      refine j_iinc2 89 (1) dX10_shine_86 rfl rfl rfl rfl ?_
      refine j_goto 2 dX10_shine_89 rfl ?_
      rw [e2]
      refine ih (h + 1) _ _ (by omega) ?_ hs
      rw [show shiN e (h + 1) = shiN e h from funext fun k => by
        show (if k = 4 then glF e (h + 1) else ppu (liF e) (h + 1) e k) = (if k = 4 then glF e h else ppu (liF e) h e k)
        rw [show glF e (h + 1) = glF e h from if_neg hd, ppu_same (h := h) (fun r hr => by unfold liF; rw [if_neg (fun z => hd z.2)])]]
      exact hT
set_option maxRecDepth 100000 in
theorem c_shine_9 (m : Mem) (e : Nat → Int32) (w : WF e) (hT : TR 9 m e) (hl : LR m 43 e 1) : JM l g 3 mX10_shine [rf g 9, rf g 43] m (RS none (fun m' => TR 9 m' (shiF e) ∧ Sm [9, 17, 45] m m')) := by
  refine JM_of (ls := [some (rf g 9), some (rf g 43), none, none]) pn_X10 rfl rfl ?_
  refine j_iconst 1 (v := 0) dX10_shine_0 rfl rfl ?_
  refine j_istore2 2 dX10_shine_1 rfl rfl rfl ?_
  exact lp_shine_9 e w m hl (fun m' a b => ⟨rfl, a, b⟩) _ 0 m none (Nat.zero_add _) (by rw [shiN_0]; exact hT) Sm.rf
set_option maxRecDepth 100000 in
theorem lp_sweep_9 {Q : Option Value → Mem → Prop} (e : Nat → Int32) (w : WF e) (m0 : Mem) (kk : ∀ m', TR 9 m' (ppu (swp e) (hn e) e) → Sm [16] m0 m' → Q none m') : ∀ (k h : Nat) (m : Mem), h + k = hn e → TR 9 m (ppu (swp e) h e) → Sm [16] m0 m → J l g 1 mX10_sweepUp 2 [some (rf g 9), some (.int (nI h))] [] m Q := by
  have wn := w.n
  intro k
  induction k with
  | zero =>
    intro h m eh hT hs
    have eh : h = hn e := by omega
    subst eh
    refine j_iload1 3 dX10_sweepUp_2 rfl ?_
    refine j_aload0 4 dX10_sweepUp_3 rfl ?_
    refine j_getI 7 dX10_sweepUp_4 rfl fl_X10_53 rfl rfl ?_
    refine j_cmp_ge 49 10 dX10_sweepUp_7 rfl rfl (fun h7 => ?_) (fun h7 => absurd (by rw [hT.1, ppu_lo (by decide), wn.2]; exact Int32.le_refl _) h7)
    refine j_vret dX10_sweepUp_49 rfl ?_
    exact kk m hT hs
  | succ k ih =>
    intro h m eh hT hs
    have e2 : nI h + 1 = nI (h + 1) := nI_1 h
    have hh : h < 8 := by omega
    have hw := w.hw hh
    obtain ⟨t9, t10, t11, t12, t13, ts, tt, th⟩ := id hT
    have ef : ∀ r, r < 6 → m (9 + 3 + r) h = hf e h r := fun r hr => by rw [th h hh r hr, ppu_at hr]
    have f2 : m 14 h = hf e h 2 := ef 2 (by decide)
    have f3 : m 15 h = hf e h 3 := ef 3 (by decide)
    have f4 : m 16 h = hf e h 4 := ef 4 (by decide)
    have same : ¬ (hf e h 3 = 0 ∧ sunM e h = 0) → TR 9 m (ppu (swp e) (h + 1) e) := fun q => by
      rw [← ppu_same (fun r hr => by unfold swp; rw [if_neg (fun z => q z.2)])]; exact hT
    by_cases hd : hf e h 3 = 0
    · obtain ⟨j, hj, ej⟩ := hw.2.2.2.2.1 hd
      have ej : hf e h 4 = nI j := ej
      have fs : m 10 j = sunM e h := by
        unfold sunM
        rw [if_pos hd, ej, nI_clamp (by omega)]
        have := ts j hj
        rw [ppu_lo (by omega)] at this
        exact this
      refine j_iload1 3 dX10_sweepUp_2 rfl ?_
      refine j_aload0 4 dX10_sweepUp_3 rfl ?_
      refine j_getI 7 dX10_sweepUp_4 rfl fl_X10_53 rfl rfl ?_
      refine j_cmp_ge 49 10 dX10_sweepUp_7 rfl rfl (fun h7 => absurd h7 (by rw [t9, ppu_lo (by decide), wn.2]; exact nI_ge (by omega) (by omega))) (fun h7 => ?_)
      refine j_aload0 11 dX10_sweepUp_10 rfl ?_
      refine j_iload1 12 dX10_sweepUp_11 rfl ?_
      refine j_vi1f 15 dX10_sweepUp_12 rfl rfl cl_X10_86 rfl rfl (c_isDust_9 m h hh) ?_
      refine j_if_eq_bz 43 18 dX10_sweepUp_15 rfl rfl (fun h15 => absurd h15 (fun q => q (by rw [f3]; exact hd))) (fun h15 => ?_)
      refine j_aload0 19 dX10_sweepUp_18 rfl ?_
      refine j_aload0 20 dX10_sweepUp_19 rfl ?_
      refine j_getR 23 dX10_sweepUp_20 rfl fl_X10_30 rfl rfl ?_
      refine j_iload1 24 dX10_sweepUp_23 rfl ?_
      refine j_iald 25 _ rfl (by first | assumption | decide | omega) dX10_sweepUp_24 rfl rfl ?_
      refine j_top (f4.trans ej) ?_
      refine j_vi1f 28 dX10_sweepUp_25 rfl rfl cl_X10_76 rfl rfl (c_sunOf_9 m j hj) ?_
      refine j_if_ne 43 31 dX10_sweepUp_28 rfl rfl (fun h28 => ?_) (fun h28 => ?_)
      · refine j_iinc1 46 (1) dX10_sweepUp_43 rfl rfl rfl rfl ?_
        refine j_goto 2 dX10_sweepUp_46 rfl ?_
        rw [e2]
        first
        | exact ih (h + 1) _ (by omega) (same (fun q => h28 (by rw [fs]; exact q.2))) hs
        | refine ih (h + 1) _ (by omega) (TR_next hT (up2_r (by decide)) (up2_r (by decide)) (up2_r (by decide)) (fun r hr i hi hne => up2_k hne) (fun r hr => ?_)) (hs.up (by decide))
          unfold swp
          by_cases q : r = 4
          · subst q
            rw [if_pos ⟨rfl, hd, by rw [← fs]; exact h28⟩]
            show up2 m 16 h _ 16 h = _
            rw [up2_s, f2]
          · rw [if_neg (fun z => q z.1), up2_a (by omega)]
            exact ef r hr
      · refine j_aload0 32 dX10_sweepUp_31 rfl ?_
        refine j_getR 35 dX10_sweepUp_32 rfl fl_X10_30 rfl rfl ?_
        refine j_iload1 36 dX10_sweepUp_35 rfl ?_
        refine j_aload0 37 dX10_sweepUp_36 rfl ?_
        refine j_getR 40 dX10_sweepUp_37 rfl fl_X10_24 rfl rfl ?_
        refine j_iload1 41 dX10_sweepUp_40 rfl ?_
        refine j_iald 42 _ rfl hh dX10_sweepUp_41 rfl rfl ?_
        refine j_iast 43 _ rfl hh dX10_sweepUp_42 rfl rfl ?_
        refine j_iinc1 46 (1) dX10_sweepUp_43 rfl rfl rfl rfl ?_
        refine j_goto 2 dX10_sweepUp_46 rfl ?_
        rw [e2]
        first
        | exact ih (h + 1) _ (by omega) (same (fun q => h28 (by rw [fs]; exact q.2))) hs
        | refine ih (h + 1) _ (by omega) (TR_next hT (up2_r (by decide)) (up2_r (by decide)) (up2_r (by decide)) (fun r hr i hi hne => up2_k hne) (fun r hr => ?_)) (hs.up (by decide))
          unfold swp
          by_cases q : r = 4
          · subst q
            rw [if_pos ⟨rfl, hd, by rw [← fs]; exact h28⟩]
            show up2 m 16 h _ 16 h = _
            rw [up2_s, f2]
          · rw [if_neg (fun z => q z.1), up2_a (by omega)]
            exact ef r hr
    · refine j_iload1 3 dX10_sweepUp_2 rfl ?_
      refine j_aload0 4 dX10_sweepUp_3 rfl ?_
      refine j_getI 7 dX10_sweepUp_4 rfl fl_X10_53 rfl rfl ?_
      refine j_cmp_ge 49 10 dX10_sweepUp_7 rfl rfl (fun h7 => absurd h7 (by rw [t9, ppu_lo (by decide), wn.2]; exact nI_ge (by omega) (by omega))) (fun h7 => ?_)
      refine j_aload0 11 dX10_sweepUp_10 rfl ?_
      refine j_iload1 12 dX10_sweepUp_11 rfl ?_
      refine j_vi1f 15 dX10_sweepUp_12 rfl rfl cl_X10_86 rfl rfl (c_isDust_9 m h hh) ?_
      refine j_if_eq_bz 43 18 dX10_sweepUp_15 rfl rfl (fun h15 => ?_) (fun h15 => absurd h15 (fun q => hd (by rw [← f3]; exact q)))
      refine j_iinc1 46 (1) dX10_sweepUp_43 rfl rfl rfl rfl ?_
      refine j_goto 2 dX10_sweepUp_46 rfl ?_
      rw [e2]
      exact ih (h + 1) _ (by omega) (same (fun q => hd q.1)) hs
set_option maxRecDepth 100000 in
theorem c_sweepUp_9 (m : Mem) (e : Nat → Int32) (w : WF e) (hT : TR 9 m e) : JM l g 1 mX10_sweepUp [rf g 9] m (RS none (fun m' => TR 9 m' (ppu (swp e) (hn e) e) ∧ Sm [16] m m')) := by
  refine JM_of (ls := [some (rf g 9), none]) pn_X10 rfl rfl ?_
  refine j_iconst 1 (v := 0) dX10_sweepUp_0 rfl rfl ?_
  refine j_istore1 2 dX10_sweepUp_1 rfl rfl rfl ?_
  exact lp_sweep_9 e w m (fun m' a b => ⟨rfl, a, b⟩) _ 0 m (Nat.zero_add _) (by rw [ppu_0]; exact hT) Sm.rf
set_option maxRecDepth 100000 in
theorem lp_carry_18 {Q : Option Value → Mem → Prop} (d : Nat → Int32) (w : WF d) (come : Int32) (hcm : nb come 10) (m0 : Mem) (kk : ∀ m', TR 18 m' (ppu (car d come) (hn d) d) → Sm [24, 25] m0 m' → Q none m') : ∀ (k h : Nat) (m : Mem), h + k = hn d → TR 18 m (ppu (car d come) h d) → Sm [24, 25] m0 m → J l g 3 mX10_carry 2 [some (rf g 18), some (.int come), some (.int (nI h))] [] m Q := by
  have wn := w.n
  intro k
  induction k with
  | zero =>
    intro h m e hT hs
    have e : h = hn d := by omega
    subst e
    refine j_iload2 3 dX10_carry_2 rfl ?_
    refine j_aload0 4 dX10_carry_3 rfl ?_
    refine j_getI 7 dX10_carry_4 rfl fl_X10_53 rfl rfl ?_
    refine j_cmp_ge 51 10 dX10_carry_7 rfl rfl (fun h7 => ?_) (fun h7 => absurd (by rw [hT.1, ppu_lo (by decide), wn.2]; exact Int32.le_refl _) h7)
    refine j_vret dX10_carry_51 rfl ?_
    exact kk m hT hs
  | succ k ih =>
    intro h m e hT hs
    have e2 : nI h + 1 = nI (h + 1) := nI_1 h
    have hh : h < 8 := by omega
    have hw := w.hw hh
    obtain ⟨t9, t10, t11, t12, t13, ts, tt, th⟩ := id hT
    have ef : ∀ r, r < 6 → m (18 + 3 + r) h = hf d h r := fun r hr => by rw [th h hh r hr, ppu_at hr]
    have f0 : m 21 h = hf d h 0 := ef 0 (by decide)
    have f1 : m 22 h = hf d h 1 := ef 1 (by decide)
    have f2 : m 23 h = hf d h 2 := ef 2 (by decide)
    have f3 : m 24 h = hf d h 3 := ef 3 (by decide)
    have f4 : m 25 h = hf d h 4 := ef 4 (by decide)
    have fd : m 18 13 = d 1 := by rw [t13, ppu_lo (by decide)]
    have ek : hf d h 0 = nI (kN d h) := (nb_cl hw.1 (by decide)).2
    have eto : ∀ i, i < 16 → m 20 i = d (24 + i) := fun i hi => by have := tt i hi; rw [ppu_lo (by omega)] at this; exact this
    obtain ⟨c, hc, ec⟩ := drF_nb (k := kN d h) (dy := d 1) hcm hw.2.1
    refine j_iload2 3 dX10_carry_2 rfl ?_
    refine j_aload0 4 dX10_carry_3 rfl ?_
    refine j_getI 7 dX10_carry_4 rfl fl_X10_53 rfl rfl ?_
    refine j_cmp_ge 51 10 dX10_carry_7 rfl rfl (fun h7 => absurd h7 (by rw [t9, ppu_lo (by decide), wn.2]; exact nI_ge (by omega) (by omega))) (fun h7 => ?_)
    refine j_aload0 11 dX10_carry_10 rfl ?_
    refine j_iload2 12 dX10_carry_11 rfl ?_
    refine j_vi1f 15 dX10_carry_12 rfl rfl cl_X10_86 rfl rfl (c_isDust_18 m h hh) ?_
    refine j_if_eq_bz 32 18 dX10_carry_15 rfl rfl (fun h15 => ?_) (fun h15 => ?_)
    · refine j_aload0 33 dX10_carry_32 rfl ?_
      refine j_iload2 34 dX10_carry_33 rfl ?_
      refine j_aload0 35 dX10_carry_34 rfl ?_
      refine j_getR 38 dX10_carry_35 rfl fl_X10_27 rfl rfl ?_
      refine j_iload2 39 dX10_carry_38 rfl ?_
      refine j_iald 40 _ rfl hh dX10_carry_39 rfl rfl ?_
      refine j_iconst 41 (v := 1) dX10_carry_40 rfl rfl ?_
      refine j_isub 42 dX10_carry_41 rfl ?_
      refine j_vi2v 45 dX10_carry_42 rfl rfl cl_X10_62 rfl rfl (c_setLeft_18 m h _ hh) ?_
      refine j_iinc2 48 (1) dX10_carry_45 rfl rfl rfl rfl ?_
      refine j_goto 2 dX10_carry_48 rfl ?_
      rw [e2]
      first
      | refine ih (h + 1) _ (by omega) (TR_next hT (up2_r (by decide)) (up2_r (by decide)) (up2_r (by decide)) (fun r hr i hi hne => up2_k hne) (fun r hr => ?_)) (hs.up (by decide))
        have hd : hf d h 3 = 0 := by rw [← f3]; exact h15
        unfold car
        rw [if_pos hd]
        by_cases q : r = 4
        · subst q
          rw [if_pos rfl]
          show up2 m 25 h _ 25 h = _
          rw [up2_s, f4]
          unfold drN
          rw [ec, nI_clamp (by omega)]
        · rw [if_neg q, up2_a (by omega)]
          exact ef r hr
      | refine ih (h + 1) _ (by omega) (TR_next hT ((up2_r (by decide)).trans (up2_r (by decide))) ((up2_r (by decide)).trans (up2_r (by decide))) ((up2_r (by decide)).trans (up2_r (by decide))) (fun r hr i hi hne => (up2_k hne).trans (up2_k hne)) (fun r hr => ?_)) ((hs.up (by decide)).up (by decide))
        have hd : ¬ hf d h 3 = 0 := by rw [← f3]; exact h15
        unfold car
        rw [if_neg hd]
        by_cases q3 : r = 3
        · subst q3
          rw [if_pos rfl]
          show up2 (up2 m 24 h _) 25 h _ 24 h = _
          rw [up2_a (by decide), up2_s, f3]
        · rw [if_neg q3]
          by_cases q : r = 4
          · subst q
            rw [if_pos rfl]
            show up2 (up2 m 24 h _) 25 h _ 25 h = _
            rw [up2_s, f3, f2]
          · rw [if_neg q, up2_a (by omega), up2_a (by omega)]
            exact ef r hr
    · refine j_aload0 19 dX10_carry_18 rfl ?_
      refine j_iload2 20 dX10_carry_19 rfl ?_
      refine j_aload0 21 dX10_carry_20 rfl ?_
      refine j_iload2 22 dX10_carry_21 rfl ?_
      refine j_iload1 23 dX10_carry_22 rfl ?_
      refine j_vi2f 26 dX10_carry_23 rfl rfl cl_X10_133 rfl rfl (c_driftsOf_18 m h (kN d h) come hh (nb_cl hw.1 (by decide)).1 (by rw [f0]; exact ek)) ?_
      have hdust : hf d h 3 = 0 := by rw [← f3]; exact h15
      refine j_top (z := nI c) (by rw [f1, fd]; exact ec) ?_
      refine j_vi2v 29 dX10_carry_26 rfl rfl cl_X10_137 rfl rfl (c_drift_18 m d w h c hh (by omega) eto (by rw [f4]; exact hw.2.2.2.2.1 hdust)) ?_
      refine j_goto 45 dX10_carry_29 rfl ?_
      refine j_iinc2 48 (1) dX10_carry_45 rfl rfl rfl rfl ?_
      refine j_goto 2 dX10_carry_48 rfl ?_
      rw [e2]
      first
      | refine ih (h + 1) _ (by omega) (TR_next hT (up2_r (by decide)) (up2_r (by decide)) (up2_r (by decide)) (fun r hr i hi hne => up2_k hne) (fun r hr => ?_)) (hs.up (by decide))
        have hd : hf d h 3 = 0 := by rw [← f3]; exact h15
        unfold car
        rw [if_pos hd]
        by_cases q : r = 4
        · subst q
          rw [if_pos rfl]
          show up2 m 25 h _ 25 h = _
          rw [up2_s, f4]
          unfold drN
          rw [ec, nI_clamp (by omega)]
        · rw [if_neg q, up2_a (by omega)]
          exact ef r hr
      | refine ih (h + 1) _ (by omega) (TR_next hT ((up2_r (by decide)).trans (up2_r (by decide))) ((up2_r (by decide)).trans (up2_r (by decide))) ((up2_r (by decide)).trans (up2_r (by decide))) (fun r hr i hi hne => (up2_k hne).trans (up2_k hne)) (fun r hr => ?_)) ((hs.up (by decide)).up (by decide))
        have hd : ¬ hf d h 3 = 0 := by rw [← f3]; exact h15
        unfold car
        rw [if_neg hd]
        by_cases q3 : r = 3
        · subst q3
          rw [if_pos rfl]
          show up2 (up2 m 24 h _) 25 h _ 24 h = _
          rw [up2_a (by decide), up2_s, f3]
        · rw [if_neg q3]
          by_cases q : r = 4
          · subst q
            rw [if_pos rfl]
            show up2 (up2 m 24 h _) 25 h _ 25 h = _
            rw [up2_s, f3, f2]
          · rw [if_neg q, up2_a (by omega), up2_a (by omega)]
            exact ef r hr
set_option maxRecDepth 100000 in
theorem c_carry_18 (m : Mem) (d : Nat → Int32) (w : WF d) (come : Int32) (hcm : nb come 10) (hT : TR 18 m d) : JM l g 3 mX10_carry [rf g 18, .int come] m (RS none (fun m' => TR 18 m' (ppu (car d come) (hn d) d) ∧ Sm [24, 25] m m')) := by
  refine JM_of (ls := [some (rf g 18), some (.int come), none]) pn_X10 rfl rfl ?_
  refine j_iconst 1 (v := 0) dX10_carry_0 rfl rfl ?_
  refine j_istore2 2 dX10_carry_1 rfl rfl rfl ?_
  exact lp_carry_18 d w come hcm m (fun m' a b => ⟨rfl, a, b⟩) _ 0 m (Nat.zero_add _) (by rw [ppu_0]; exact hT) Sm.rf
set_option maxRecDepth 100000 in
theorem lp_shine_18 {Q : Option Value → Mem → Prop} (e : Nat → Int32) (w : WF e) (m0 : Mem) (hl0 : LR m0 43 e 1) (kk : ∀ m', TR 18 m' (shiF e) → Sm [18, 26, 45] m0 m' → Q none m') : ∀ (k h : Nat) (m : Mem) (o : Option Value), h + k = hn e → TR 18 m (shiN e h) → Sm [18, 26, 45] m0 m → J l g 3 mX10_shine 2 [some (rf g 18), some (rf g 43), some (.int (nI h)), o] [] m Q := by
  have wn := w.n
  intro k
  induction k with
  | zero =>
    intro h m o eh hT hs
    have eh : h = hn e := by omega
    subst eh
    refine j_iload2 3 dX10_shine_2 rfl ?_
    refine j_aload0 4 dX10_shine_3 rfl ?_
    refine j_getI 7 dX10_shine_4 rfl fl_X10_53 rfl rfl ?_
    refine j_cmp_ge 92 10 dX10_shine_7 rfl rfl (fun h7 => ?_) (fun h7 => absurd (by rw [hT.1]; unfold shiN; rw [if_neg (by decide), ppu_lo (by decide), wn.2]; exact Int32.le_refl _) h7)
    refine j_vret dX10_shine_92 rfl ?_
    exact kk m hT hs
  | succ k ih =>
    intro h m o eh hT hs
    have e2 : nI h + 1 = nI (h + 1) := nI_1 h
    have hh : h < 8 := by omega
    have hw := w.hw hh
    obtain ⟨t9, t10, t11, t12, t13, ts, tt, th⟩ := id hT
    have el : ∀ i, i < 40 → i ≠ 4 → shiN e h i = e i := fun i hi h4 => by show (if i = 4 then _ else _) = _; rw [if_neg h4, ppu_lo hi]
    have ef : ∀ r, r < 6 → m (18 + 3 + r) h = hf e h r := fun r hr => by
      rw [th h hh r hr]
      show (if 40 + 6 * h + r = 4 then glF e h else hf (ppu (liF e) h e) h r) = _
      rw [if_neg (by omega), ppu_at hr]
    have f0 : m 21 h = hf e h 0 := ef 0 (by decide)
    have f1 : m 22 h = hf e h 1 := ef 1 (by decide)
    have f3 : m 24 h = hf e h 3 := ef 3 (by decide)
    have f4 : m 25 h = hf e h 4 := ef 4 (by decide)
    have f5 : m 26 h = hf e h 5 := ef 5 (by decide)
    have fd : m 18 13 = e 1 := by rw [t13, el 1 (by decide) (by decide)]
    have fg : m 18 12 = glF e h := by rw [t12]; exact if_pos rfl
    have ek : hf e h 0 = nI (kN e h) := (nb_cl hw.1 (by decide)).2
    have hl : LR m 43 e 1 := by
      have a1 := hs 43 (by decide)
      have a2 := hs 44 (by decide)
      exact ⟨by rw [a1]; exact hl0.1, by rw [a1]; exact hl0.2.1, fun j hj => by show m 44 j = _; rw [a2]; exact hl0.2.2 j hj⟩
    have hby : nb (byF e h) 100 := textG_nb1 _ _ _ _
    by_cases hd : hf e h 3 = 0
    · obtain ⟨j, hj, ej⟩ := hw.2.2.2.2.1 hd
      have ej : hf e h 4 = nI j := ej
      have fs : m 19 j = sunM e h := by
        unfold sunM
        rw [if_pos hd, ej, nI_clamp (by omega)]
        have := ts j hj
        rw [el _ (by omega) (by omega)] at this
        exact this
      refine j_iload2 3 dX10_shine_2 rfl ?_
      refine j_aload0 4 dX10_shine_3 rfl ?_
      refine j_getI 7 dX10_shine_4 rfl fl_X10_53 rfl rfl ?_
      refine j_cmp_ge 92 10 dX10_shine_7 rfl rfl (fun h7 => absurd h7 (by rw [t9, el 0 (by decide) (by decide), wn.2]; exact nI_ge (by omega) (by omega))) (fun h7 => ?_)
      refine j_aload0 11 dX10_shine_10 rfl ?_
      refine j_iload2 12 dX10_shine_11 rfl ?_
      refine j_vi1f 15 dX10_shine_12 rfl rfl cl_X10_86 rfl rfl (c_isDust_18 m h hh) ?_
      refine j_if_eq_bz 86 18 dX10_shine_15 rfl rfl (fun h15 => absurd h15 (fun q => q (by rw [f3]; exact hd))) (fun h15 => ?_)
      refine j_aload1 19 dX10_shine_18 rfl ?_
      refine j_aload0 20 dX10_shine_19 rfl ?_
      refine j_iload2 21 dX10_shine_20 rfl ?_
      refine j_aload0 22 dX10_shine_21 rfl ?_
      refine j_getR 25 dX10_shine_22 rfl fl_X10_30 rfl rfl ?_
      refine j_iload2 26 dX10_shine_25 rfl ?_
      refine j_iald 27 _ rfl (by first | assumption | decide | omega) dX10_shine_26 rfl rfl ?_
      refine j_top (f4.trans ej) ?_
      refine j_vi2f 30 dX10_shine_27 rfl rfl cl_X10_140 rfl rfl (c_shinesOf_18 m h (kN e h) j hh (nb_cl hw.1 (by decide)).1 hj (by rw [f0]; exact ek)) ?_
      refine j_aload0 31 dX10_shine_30 rfl ?_
      refine j_aload0 32 dX10_shine_31 rfl ?_
      refine j_getR 35 dX10_shine_32 rfl fl_X10_30 rfl rfl ?_
      refine j_iload2 36 dX10_shine_35 rfl ?_
      refine j_iald 37 _ rfl (by first | assumption | decide | omega) dX10_shine_36 rfl rfl ?_
      refine j_top (f4.trans ej) ?_
      refine j_vi1f 40 dX10_shine_37 rfl rfl cl_X10_76 rfl rfl (c_sunOf_18 m j hj) ?_
      refine j_aload0 41 dX10_shine_40 rfl ?_
      refine j_getI 44 dX10_shine_41 rfl fl_X10_59 rfl rfl ?_
      refine j_bipush 46 (v := 24) dX10_shine_44 rfl rfl ?_
      refine j_irm 47 dX10_shine_46 rfl (by decide) ?_
      refine j_vi3s 50 dX10_shine_47 rfl rfl cl_X10_115 rfl rfl (c_gives_43 m e _ _ _ w.t1 hl) (fun m47 q47 => ?_)
      refine j_top (z := byF e h) (by unfold byF; rw [fs, f1, fd]) ?_
      have g5 : m47 26 h = hf e h 5 := by rw [q47 26 (by decide)]; exact f5
      have gg : m47 18 12 = glF e h := by rw [q47 18 (by decide)]; exact fg
      refine j_istore3 51 dX10_shine_50 rfl rfl rfl ?_
      refine j_aload0 52 dX10_shine_51 rfl ?_
      refine j_getR 55 dX10_shine_52 rfl fl_X10_33 rfl rfl ?_
      refine j_iload2 56 dX10_shine_55 rfl ?_
      refine j_sipush 59 (v := 9999) dX10_shine_56 rfl rfl ?_
      refine j_aload0 60 dX10_shine_59 rfl ?_
      refine j_getR 63 dX10_shine_60 rfl fl_X10_33 rfl rfl ?_
      refine j_iload2 64 dX10_shine_63 rfl ?_
      refine j_iald 65 _ rfl hh dX10_shine_64 rfl rfl ?_
      refine j_iload3 66 dX10_shine_65 rfl ?_
      refine j_iadd 67 dX10_shine_66 rfl ?_
      refine j_mmin 70 dX10_shine_67 rfl rfl cl_X10_143 rfl ?_
      refine j_iast 71 _ rfl hh dX10_shine_70 rfl rfl ?_
      refine j_aload0 72 dX10_shine_71 rfl ?_
      refine j_ldc 74 dX10_shine_72 rfl kc_X10_148 ?_
      refine j_aload0 75 dX10_shine_74 rfl ?_
      refine j_getI 78 dX10_shine_75 rfl fl_X10_56 rfl rfl ?_
      refine j_iload3 79 dX10_shine_78 rfl ?_
      refine j_iadd 80 dX10_shine_79 rfl ?_
      refine j_mmin 83 dX10_shine_80 rfl rfl cl_X10_143 rfl ?_
      refine j_putI 86 dX10_shine_83 rfl fp_X10_56 rfl rfl ?_
      refine j_iinc2 89 (1) dX10_shine_86 rfl rfl rfl rfl ?_
      refine j_goto 2 dX10_shine_89 rfl ?_
      rw [e2]
      refine ih (h + 1) _ _ (by omega) ?_ (((hs.trans (q47.mono (by decide))).up (by decide)).up (by decide))
      rw [g5, up2_a (by decide), gg]
      rw [show imin 9999 (hf e h 5 + byF e h) = heldF (hf e h 5 + byF e h) 0 9999 from imin_held (N := 9999) (by decide) (by decide) (nb_add hw.2.2.2.2.2.2 hby), show imin 99999 (glF e h + byF e h) = heldF (glF e h + byF e h) 0 99999 from imin_held (N := 99999) (by decide) (by decide) (nb_add (gl_nb w h) hby)]
      have hT2 : TR 18 m47 (shiN e h) := TR_same hT (fun b b1 b2 => q47 b (by simp; omega))
      obtain ⟨s9, s10, s11, s12, s13, ss, st, sh⟩ := hT2
      have ln : ∀ i, i ≠ 4 → i < 40 → shiN e (h + 1) i = shiN e h i := fun i h4 hi => by show (if i = 4 then _ else _) = (if i = 4 then _ else _); rw [if_neg h4, if_neg h4, ppu_lo hi, ppu_lo hi]
      refine ⟨?_, ?_, ?_, ?_, ?_, fun i hi => ?_, fun i hi => ?_, fun i hi r hr => ?_⟩
      · rw [up2_k (by decide), up2_a (by decide), ln 0 (by decide) (by decide)]; exact s9
      · rw [up2_k (by decide), up2_a (by decide), ln 2 (by decide) (by decide)]; exact s10
      · rw [up2_k (by decide), up2_a (by decide), ln 3 (by decide) (by decide)]; exact s11
      · rw [up2_s]
        show _ = (if hf e h 3 = 0 then heldF (glF e h + byF e h) 0 99999 else glF e h)
        rw [if_pos hd]
      · rw [up2_k (by decide), up2_a (by decide), ln 1 (by decide) (by decide)]; exact s13
      · rw [up2_a (by decide), up2_a (by decide), ln _ (by omega) (by omega)]; exact ss i hi
      · rw [up2_a (by decide), up2_a (by decide), ln _ (by omega) (by omega)]; exact st i hi
      · show _ = (if 40 + 6 * i + r = 4 then _ else hf (ppu (liF e) (h + 1) e) i r)
        rw [if_neg (by omega), ppu_hf hr, up2_a (by omega)]
        have shi : m47 (18 + 3 + r) i = hf (ppu (liF e) h e) i r := by
          rw [sh i hi r hr]
          show (if 40 + 6 * i + r = 4 then _ else _) = _
          rw [if_neg (by omega)]
        rw [ppu_hf hr] at shi
        by_cases q : i = h
        · subst q
          rw [if_neg (by omega)] at shi
          rw [if_pos (by omega)]
          unfold liF
          by_cases q5 : r = 5
          · subst q5
            rw [if_pos ⟨rfl, hd⟩]
            show up2 m47 26 i _ 26 i = _
            rw [up2_s]
          · rw [if_neg (fun z => q5 z.1), up2_a (by omega)]
            exact shi
        · rw [up2_k q, shi]
          by_cases z : i < h
          · rw [if_pos z, if_pos (by omega)]
          · rw [if_neg z, if_neg (by omega)]
    · refine j_iload2 3 dX10_shine_2 rfl ?_
      refine j_aload0 4 dX10_shine_3 rfl ?_
      refine j_getI 7 dX10_shine_4 rfl fl_X10_53 rfl rfl ?_
      refine j_cmp_ge 92 10 dX10_shine_7 rfl rfl (fun h7 => absurd h7 (by rw [t9, el 0 (by decide) (by decide), wn.2]; exact nI_ge (by omega) (by omega))) (fun h7 => ?_)
      refine j_aload0 11 dX10_shine_10 rfl ?_
      refine j_iload2 12 dX10_shine_11 rfl ?_
      refine j_vi1f 15 dX10_shine_12 rfl rfl cl_X10_86 rfl rfl (c_isDust_18 m h hh) ?_
      refine j_if_eq_bz 86 18 dX10_shine_15 rfl rfl (fun h15 => ?_) (fun h15 => absurd h15 (fun q => hd (by rw [← f3]; exact q)))
      refine j_iinc2 89 (1) dX10_shine_86 rfl rfl rfl rfl ?_
      refine j_goto 2 dX10_shine_89 rfl ?_
      rw [e2]
      refine ih (h + 1) _ _ (by omega) ?_ hs
      rw [show shiN e (h + 1) = shiN e h from funext fun k => by
        show (if k = 4 then glF e (h + 1) else ppu (liF e) (h + 1) e k) = (if k = 4 then glF e h else ppu (liF e) h e k)
        rw [show glF e (h + 1) = glF e h from if_neg hd, ppu_same (h := h) (fun r hr => by unfold liF; rw [if_neg (fun z => hd z.2)])]]
      exact hT
set_option maxRecDepth 100000 in
theorem c_shine_18 (m : Mem) (e : Nat → Int32) (w : WF e) (hT : TR 18 m e) (hl : LR m 43 e 1) : JM l g 3 mX10_shine [rf g 18, rf g 43] m (RS none (fun m' => TR 18 m' (shiF e) ∧ Sm [18, 26, 45] m m')) := by
  refine JM_of (ls := [some (rf g 18), some (rf g 43), none, none]) pn_X10 rfl rfl ?_
  refine j_iconst 1 (v := 0) dX10_shine_0 rfl rfl ?_
  refine j_istore2 2 dX10_shine_1 rfl rfl rfl ?_
  exact lp_shine_18 e w m hl (fun m' a b => ⟨rfl, a, b⟩) _ 0 m none (Nat.zero_add _) (by rw [shiN_0]; exact hT) Sm.rf
set_option maxRecDepth 100000 in
theorem lp_sweep_18 {Q : Option Value → Mem → Prop} (e : Nat → Int32) (w : WF e) (m0 : Mem) (kk : ∀ m', TR 18 m' (ppu (swp e) (hn e) e) → Sm [25] m0 m' → Q none m') : ∀ (k h : Nat) (m : Mem), h + k = hn e → TR 18 m (ppu (swp e) h e) → Sm [25] m0 m → J l g 1 mX10_sweepUp 2 [some (rf g 18), some (.int (nI h))] [] m Q := by
  have wn := w.n
  intro k
  induction k with
  | zero =>
    intro h m eh hT hs
    have eh : h = hn e := by omega
    subst eh
    refine j_iload1 3 dX10_sweepUp_2 rfl ?_
    refine j_aload0 4 dX10_sweepUp_3 rfl ?_
    refine j_getI 7 dX10_sweepUp_4 rfl fl_X10_53 rfl rfl ?_
    refine j_cmp_ge 49 10 dX10_sweepUp_7 rfl rfl (fun h7 => ?_) (fun h7 => absurd (by rw [hT.1, ppu_lo (by decide), wn.2]; exact Int32.le_refl _) h7)
    refine j_vret dX10_sweepUp_49 rfl ?_
    exact kk m hT hs
  | succ k ih =>
    intro h m eh hT hs
    have e2 : nI h + 1 = nI (h + 1) := nI_1 h
    have hh : h < 8 := by omega
    have hw := w.hw hh
    obtain ⟨t9, t10, t11, t12, t13, ts, tt, th⟩ := id hT
    have ef : ∀ r, r < 6 → m (18 + 3 + r) h = hf e h r := fun r hr => by rw [th h hh r hr, ppu_at hr]
    have f2 : m 23 h = hf e h 2 := ef 2 (by decide)
    have f3 : m 24 h = hf e h 3 := ef 3 (by decide)
    have f4 : m 25 h = hf e h 4 := ef 4 (by decide)
    have same : ¬ (hf e h 3 = 0 ∧ sunM e h = 0) → TR 18 m (ppu (swp e) (h + 1) e) := fun q => by
      rw [← ppu_same (fun r hr => by unfold swp; rw [if_neg (fun z => q z.2)])]; exact hT
    by_cases hd : hf e h 3 = 0
    · obtain ⟨j, hj, ej⟩ := hw.2.2.2.2.1 hd
      have ej : hf e h 4 = nI j := ej
      have fs : m 19 j = sunM e h := by
        unfold sunM
        rw [if_pos hd, ej, nI_clamp (by omega)]
        have := ts j hj
        rw [ppu_lo (by omega)] at this
        exact this
      refine j_iload1 3 dX10_sweepUp_2 rfl ?_
      refine j_aload0 4 dX10_sweepUp_3 rfl ?_
      refine j_getI 7 dX10_sweepUp_4 rfl fl_X10_53 rfl rfl ?_
      refine j_cmp_ge 49 10 dX10_sweepUp_7 rfl rfl (fun h7 => absurd h7 (by rw [t9, ppu_lo (by decide), wn.2]; exact nI_ge (by omega) (by omega))) (fun h7 => ?_)
      refine j_aload0 11 dX10_sweepUp_10 rfl ?_
      refine j_iload1 12 dX10_sweepUp_11 rfl ?_
      refine j_vi1f 15 dX10_sweepUp_12 rfl rfl cl_X10_86 rfl rfl (c_isDust_18 m h hh) ?_
      refine j_if_eq_bz 43 18 dX10_sweepUp_15 rfl rfl (fun h15 => absurd h15 (fun q => q (by rw [f3]; exact hd))) (fun h15 => ?_)
      refine j_aload0 19 dX10_sweepUp_18 rfl ?_
      refine j_aload0 20 dX10_sweepUp_19 rfl ?_
      refine j_getR 23 dX10_sweepUp_20 rfl fl_X10_30 rfl rfl ?_
      refine j_iload1 24 dX10_sweepUp_23 rfl ?_
      refine j_iald 25 _ rfl (by first | assumption | decide | omega) dX10_sweepUp_24 rfl rfl ?_
      refine j_top (f4.trans ej) ?_
      refine j_vi1f 28 dX10_sweepUp_25 rfl rfl cl_X10_76 rfl rfl (c_sunOf_18 m j hj) ?_
      refine j_if_ne 43 31 dX10_sweepUp_28 rfl rfl (fun h28 => ?_) (fun h28 => ?_)
      · refine j_iinc1 46 (1) dX10_sweepUp_43 rfl rfl rfl rfl ?_
        refine j_goto 2 dX10_sweepUp_46 rfl ?_
        rw [e2]
        first
        | exact ih (h + 1) _ (by omega) (same (fun q => h28 (by rw [fs]; exact q.2))) hs
        | refine ih (h + 1) _ (by omega) (TR_next hT (up2_r (by decide)) (up2_r (by decide)) (up2_r (by decide)) (fun r hr i hi hne => up2_k hne) (fun r hr => ?_)) (hs.up (by decide))
          unfold swp
          by_cases q : r = 4
          · subst q
            rw [if_pos ⟨rfl, hd, by rw [← fs]; exact h28⟩]
            show up2 m 25 h _ 25 h = _
            rw [up2_s, f2]
          · rw [if_neg (fun z => q z.1), up2_a (by omega)]
            exact ef r hr
      · refine j_aload0 32 dX10_sweepUp_31 rfl ?_
        refine j_getR 35 dX10_sweepUp_32 rfl fl_X10_30 rfl rfl ?_
        refine j_iload1 36 dX10_sweepUp_35 rfl ?_
        refine j_aload0 37 dX10_sweepUp_36 rfl ?_
        refine j_getR 40 dX10_sweepUp_37 rfl fl_X10_24 rfl rfl ?_
        refine j_iload1 41 dX10_sweepUp_40 rfl ?_
        refine j_iald 42 _ rfl hh dX10_sweepUp_41 rfl rfl ?_
        refine j_iast 43 _ rfl hh dX10_sweepUp_42 rfl rfl ?_
        refine j_iinc1 46 (1) dX10_sweepUp_43 rfl rfl rfl rfl ?_
        refine j_goto 2 dX10_sweepUp_46 rfl ?_
        rw [e2]
        first
        | exact ih (h + 1) _ (by omega) (same (fun q => h28 (by rw [fs]; exact q.2))) hs
        | refine ih (h + 1) _ (by omega) (TR_next hT (up2_r (by decide)) (up2_r (by decide)) (up2_r (by decide)) (fun r hr i hi hne => up2_k hne) (fun r hr => ?_)) (hs.up (by decide))
          unfold swp
          by_cases q : r = 4
          · subst q
            rw [if_pos ⟨rfl, hd, by rw [← fs]; exact h28⟩]
            show up2 m 25 h _ 25 h = _
            rw [up2_s, f2]
          · rw [if_neg (fun z => q z.1), up2_a (by omega)]
            exact ef r hr
    · refine j_iload1 3 dX10_sweepUp_2 rfl ?_
      refine j_aload0 4 dX10_sweepUp_3 rfl ?_
      refine j_getI 7 dX10_sweepUp_4 rfl fl_X10_53 rfl rfl ?_
      refine j_cmp_ge 49 10 dX10_sweepUp_7 rfl rfl (fun h7 => absurd h7 (by rw [t9, ppu_lo (by decide), wn.2]; exact nI_ge (by omega) (by omega))) (fun h7 => ?_)
      refine j_aload0 11 dX10_sweepUp_10 rfl ?_
      refine j_iload1 12 dX10_sweepUp_11 rfl ?_
      refine j_vi1f 15 dX10_sweepUp_12 rfl rfl cl_X10_86 rfl rfl (c_isDust_18 m h hh) ?_
      refine j_if_eq_bz 43 18 dX10_sweepUp_15 rfl rfl (fun h15 => ?_) (fun h15 => absurd h15 (fun q => hd (by rw [← f3]; exact q)))
      refine j_iinc1 46 (1) dX10_sweepUp_43 rfl rfl rfl rfl ?_
      refine j_goto 2 dX10_sweepUp_46 rfl ?_
      rw [e2]
      exact ih (h + 1) _ (by omega) (same (fun q => hd q.1)) hs
set_option maxRecDepth 100000 in
theorem c_sweepUp_18 (m : Mem) (e : Nat → Int32) (w : WF e) (hT : TR 18 m e) : JM l g 1 mX10_sweepUp [rf g 18] m (RS none (fun m' => TR 18 m' (ppu (swp e) (hn e) e) ∧ Sm [25] m m')) := by
  refine JM_of (ls := [some (rf g 18), none]) pn_X10 rfl rfl ?_
  refine j_iconst 1 (v := 0) dX10_sweepUp_0 rfl rfl ?_
  refine j_istore1 2 dX10_sweepUp_1 rfl rfl rfl ?_
  exact lp_sweep_18 e w m (fun m' a b => ⟨rfl, a, b⟩) _ 0 m (Nat.zero_add _) (by rw [ppu_0]; exact hT) Sm.rf
end CD
