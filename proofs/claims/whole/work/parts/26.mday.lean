section MD
variable {l : Launch} {g : Gv}
set_option maxRecDepth 100000 in
theorem lp_dusts {Q : Option Value → Mem → Prop} (d : Nat → Int32) (w : WF d) (m : Mem) (hm : m 69 = d) (hq : Q (some (.int (nI (cntF d (hn d))))) m) : ∀ (k h : Nat), h + k = hn d → J l g 2 mX12_dusts 4 [some (rf g 68), some (.int (nI (cntF d h))), some (.int (nI h))] [] m Q := by
  have wn := w.n
  intro k
  induction k with
  | zero =>
    intro h e
    have e : h = hn d := by omega
    subst e
    refine j_iload2 5 dX12_dusts_4 rfl ?_
    refine j_aload0 6 dX12_dusts_5 rfl ?_
    refine j_getR 9 dX12_dusts_6 rfl fl_X12_7 rfl rfl ?_
    refine j_iconst 10 (v := 0) dX12_dusts_9 rfl rfl ?_
    refine j_iald 11 0 rfl (by first | assumption | decide | omega) dX12_dusts_10 rfl rfl ?_
    refine j_cmp_ge 36 14 dX12_dusts_11 rfl rfl (fun h11 => ?_) (fun h11 => absurd (by rw [hm, wn.2]; exact Int32.le_refl _) h11)
    refine j_iload1 37 dX12_dusts_36 rfl ?_
    refine j_iret dX12_dusts_37 rfl ?_
    exact hq
  | succ k ih =>
    intro h e
    have e2 : nI h + 1 = nI (h + 1) := nI_1 h
    refine j_iload2 5 dX12_dusts_4 rfl ?_
    refine j_aload0 6 dX12_dusts_5 rfl ?_
    refine j_getR 9 dX12_dusts_6 rfl fl_X12_7 rfl rfl ?_
    refine j_iconst 10 (v := 0) dX12_dusts_9 rfl rfl ?_
    refine j_iald 11 0 rfl (by first | assumption | decide | omega) dX12_dusts_10 rfl rfl ?_
    refine j_cmp_ge 36 14 dX12_dusts_11 rfl rfl (fun h11 => absurd h11 (by rw [hm, wn.2]; exact nI_ge (by omega) (by omega))) (fun h11 => ?_)
    refine j_iload1 15 dX12_dusts_14 rfl ?_
    refine j_aload0 16 dX12_dusts_15 rfl ?_
    refine j_iload2 17 dX12_dusts_16 rfl ?_
    refine j_vi1f 20 dX12_dusts_17 rfl rfl cl_X12_149 rfl rfl (c_misDust m h (by omega)) ?_
    refine j_if_eq_bz 27 23 dX12_dusts_20 rfl rfl (fun h20 => ?_) (fun h20 => ?_)
    · refine j_iconst 28 (v := 0) dX12_dusts_27 rfl rfl ?_
      refine j_iadd 29 dX12_dusts_28 rfl ?_
      refine j_istore1 30 dX12_dusts_29 rfl rfl rfl ?_
      refine j_iinc2 33 (1) dX12_dusts_30 rfl rfl rfl rfl ?_
      refine j_goto 4 dX12_dusts_33 rfl ?_
      first | rw [e2, cnt_f (by rw [← hm]; exact h20)] | rw [e2, cnt_t (by rw [← hm]; exact h20)]
      exact ih (h + 1) (by omega)
    · refine j_iconst 24 (v := 1) dX12_dusts_23 rfl rfl ?_
      refine j_goto 28 dX12_dusts_24 rfl ?_
      refine j_iadd 29 dX12_dusts_28 rfl ?_
      refine j_istore1 30 dX12_dusts_29 rfl rfl rfl ?_
      refine j_iinc2 33 (1) dX12_dusts_30 rfl rfl rfl rfl ?_
      refine j_goto 4 dX12_dusts_33 rfl ?_
      first | rw [e2, cnt_f (by rw [← hm]; exact h20)] | rw [e2, cnt_t (by rw [← hm]; exact h20)]
      exact ih (h + 1) (by omega)
set_option maxRecDepth 100000 in
theorem c_dusts (m : Mem) (w : WF (m 69)) : JM l g 2 mX12_dusts [rf g 68] m (RF (some (.int (nI (cntF (m 69) (hn (m 69)))))) m) := by
  refine JM_of (ls := [some (rf g 68), none, none]) pn_X12 rfl rfl ?_
  refine j_iconst 1 (v := 0) dX12_dusts_0 rfl rfl ?_
  refine j_istore1 2 dX12_dusts_1 rfl rfl rfl ?_
  refine j_iconst 3 (v := 0) dX12_dusts_2 rfl rfl ?_
  refine j_istore2 4 dX12_dusts_3 rfl rfl rfl ?_
  exact lp_dusts (m 69) w m rfl ⟨rfl, rfl⟩ _ 0 (Nat.zero_add _)
set_option maxRecDepth 100000 in
/-- it goes TO, c times -/
theorem lp_go {Q : Option Value → Mem → Prop} (d : Nat → Int32) (w : WF d) (h : Nat) (hh : h < 8) (a1 : Int32) : ∀ (c : Nat) (m : Mem), c < 2 ^ 31 → (∀ i, i < 16 → m 69 (24 + i) = d (24 + i)) → nb (hf (m 69) h 4) 16 → (∀ o, J l g 4 mX12_dayGoes 82 [some (rf g 68), some (.int a1), some (.int (nI h)), o] [] (up2 m 69 (40 + 6 * h + 4) (itT d c (hf (m 69) h 4))) Q) → J l g 4 mX12_dayGoes 52 [some (rf g 68), some (.int a1), some (.int (nI h)), some (.int (nI c))] [] m Q := by
  intro c
  induction c with
  | zero =>
    intro m hc ht hs kk
    have e := kk (some (.int (nI 0)))
    rw [show itT d 0 (hf (m 69) h 4) = m 69 (40 + 6 * h + 4) from rfl, up2_id rfl] at e
    refine j_iload3 53 dX12_dayGoes_52 rfl ?_
    refine j_if_le 82 56 dX12_dayGoes_53 rfl rfl (fun h53 => ?_) (fun h53 => absurd (by decide) h53)
    exact e
  | succ c ih =>
    intro m hc ht hs kk
    obtain ⟨j, hj, ej⟩ := hs
    have e4 : nI (c + 1) + -1 = nI c := pk_m1 c
    have eto : m 69 (24 + j) = d (24 + j) := ht j hj
    refine j_iload3 53 dX12_dayGoes_52 rfl ?_
    refine j_if_le 82 56 dX12_dayGoes_53 rfl rfl (fun h53 => absurd h53 (fun q => absurd q (Int32.not_le.mpr (nI_lt (a := 0) (b := c + 1) (by omega) hc)))) (fun h53 => ?_)
    refine j_aload0 57 dX12_dayGoes_56 rfl ?_
    refine j_iload2 58 dX12_dayGoes_57 rfl ?_
    refine j_iconst 59 (v := 4) dX12_dayGoes_58 rfl rfl ?_
    refine j_aload0 60 dX12_dayGoes_59 rfl ?_
    refine j_getR 63 dX12_dayGoes_60 rfl fl_X12_7 rfl rfl ?_
    refine j_bipush 65 (v := nI 24) dX12_dayGoes_63 rfl rfl ?_
    refine j_aload0 66 dX12_dayGoes_65 rfl ?_
    refine j_iload2 67 dX12_dayGoes_66 rfl ?_
    refine j_iconst 68 (v := 4) dX12_dayGoes_67 rfl rfl ?_
    refine j_vi2f 71 dX12_dayGoes_68 rfl rfl cl_X12_146 rfl rfl (c_of m h 4 hh (by decide)) ?_
    refine j_top ej ?_
    refine j_iaddN 72 dX12_dayGoes_71 rfl ?_
    refine j_iald 73 _ rfl (show 24 + j < 260 by omega) dX12_dayGoes_72 rfl rfl ?_
    refine j_vi3v 76 dX12_dayGoes_73 rfl rfl cl_X12_164 rfl rfl (c_sets m h 4 _ hh (by decide)) ?_
    refine j_iinc3 79 (-1) dX12_dayGoes_76 rfl rfl rfl rfl ?_
    refine j_goto 52 dX12_dayGoes_79 rfl ?_
    rw [e4]
    refine ih _ (by omega) (fun i hi => ?_) ?_ (fun o => ?_)
    · rw [up2_cell, if_neg (by omega)]; exact ht i hi
    · show nb (up2 m 69 (40 + 6 * h + 4) (m 69 (24 + j)) 69 (40 + 6 * h + 4)) 16
      rw [up2_s, eto]; exact w.to hj
    · have e := kk o
      rw [show itT d (c + 1) (hf (m 69) h 4) = itT d c (hf (up2 m 69 (40 + 6 * h + 4) (m 69 (24 + j))  69) h 4) by
        show itT d c (d (24 + (hf (m 69) h 4).toNatClampNeg)) = itT d c (up2 m 69 (40 + 6 * h + 4) (m 69 (24 + j)) 69 (40 + 6 * h + 4))
        rw [up2_s, ej, nI_clamp (by omega), eto]] at e
      rw [up2_u]
      exact e
set_option maxRecDepth 100000 in
theorem lp_day1 {Q : Option Value → Mem → Prop} (d : Nat → Int32) (w : WF d) (come : Int32) (hcm : nb come 10) (m0 : Mem) (kk : ∀ m' o, m' 69 = ppu (car1 d come) (hn d) d → Sm [69, 73, 75] m0 m' → J l g 4 mX12_dayGoes 88 [some (rf g 68), some (.int come), some (.int (nI (hn d))), o] [] m' Q) : ∀ (k h : Nat) (m : Mem) (o : Option Value), h + k = hn d → m 69 = ppu (car1 d come) h d → Sm [69, 73, 75] m0 m → J l g 4 mX12_dayGoes 27 [some (rf g 68), some (.int come), some (.int (nI h)), o] [] m Q := by
  have wn := w.n
  intro k
  induction k with
  | zero =>
    intro h m o e hm hs
    have e : h = hn d := by omega
    subst e
    refine j_iload2 28 dX12_dayGoes_27 rfl ?_
    refine j_aload0 29 dX12_dayGoes_28 rfl ?_
    refine j_getR 32 dX12_dayGoes_29 rfl fl_X12_7 rfl rfl ?_
    refine j_iconst 33 (v := 0) dX12_dayGoes_32 rfl rfl ?_
    refine j_iald 34 0 rfl (by first | assumption | decide | omega) dX12_dayGoes_33 rfl rfl ?_
    refine j_cmp_ge 88 37 dX12_dayGoes_34 rfl rfl (fun h34 => ?_) (fun h34 => absurd (by rw [hm, ppu_lo (by decide), wn.2]; exact Int32.le_refl _) h34)
    exact kk m o hm hs
  | succ k ih =>
    intro h m o e hm hs
    have e2 : nI h + 1 = nI (h + 1) := nI_1 h
    have hh : h < 8 := by omega
    have hw := w.hw hh
    have ef : ∀ r, r < 6 → hf (m 69) h r = hf d h r := fun r hr => by rw [hm]; exact ppu_at hr
    have el : ∀ i, i < 40 → m 69 i = d i := fun i hi => by rw [hm]; exact ppu_lo hi
    have ek : kN (m 69) h = kN d h := by show (hf (m 69) h 0).toNatClampNeg = _; rw [ef 0 (by decide)]
    refine j_iload2 28 dX12_dayGoes_27 rfl ?_
    refine j_aload0 29 dX12_dayGoes_28 rfl ?_
    refine j_getR 32 dX12_dayGoes_29 rfl fl_X12_7 rfl rfl ?_
    refine j_iconst 33 (v := 0) dX12_dayGoes_32 rfl rfl ?_
    refine j_iald 34 0 rfl (by first | assumption | decide | omega) dX12_dayGoes_33 rfl rfl ?_
    refine j_cmp_ge 88 37 dX12_dayGoes_34 rfl rfl (fun h34 => absurd h34 (by rw [el 0 (by decide), wn.2]; exact nI_ge (by omega) (by omega))) (fun h34 => ?_)
    refine j_aload0 38 dX12_dayGoes_37 rfl ?_
    refine j_iload2 39 dX12_dayGoes_38 rfl ?_
    refine j_vi1f 42 dX12_dayGoes_39 rfl rfl cl_X12_149 rfl rfl (c_misDust m h hh) ?_
    refine j_if_eq_bz 82 45 dX12_dayGoes_42 rfl rfl (fun h42 => ?_) (fun h42 => ?_)
    · refine j_iinc2 85 (1) dX12_dayGoes_82 rfl rfl rfl rfl ?_
      refine j_goto 27 dX12_dayGoes_85 rfl ?_
      rw [e2]
      exact ih (h + 1) _ _ (by omega) (by rw [hm]; exact ppu_same (fun r hr => by unfold car1; rw [if_neg (fun z => h42 (by rw [ef 3 (by decide)]; exact z.2))])) hs
    · refine j_aload0 46 dX12_dayGoes_45 rfl ?_
      refine j_iload2 47 dX12_dayGoes_46 rfl ?_
      refine j_iload1 48 dX12_dayGoes_47 rfl ?_
      refine j_vi2f 51 dX12_dayGoes_48 rfl rfl cl_X12_161 rfl rfl (c_mdrifts m h come hh (by rw [ef 0 (by decide)]; exact hw.1)) ?_
      have hdust : hf d h 3 = 0 := by rw [← ef 3 (by decide)]; exact h42
      obtain ⟨c, hc, ec⟩ := drF_nb (k := kN d h) (dy := d 1) hcm hw.2.1
      refine j_top (z := nI c) (by rw [ek, ef 1 (by decide), el 1 (by decide)]; exact ec) ?_
      refine j_istore3 52 dX12_dayGoes_51 rfl rfl rfl ?_
      refine lp_go d w h hh come c m (by omega) (fun i hi => el _ (by omega)) (by rw [ef 4 (by decide)]; exact hw.2.2.2.2.1 hdust) (fun o => ?_)
      refine j_iinc2 85 (1) dX12_dayGoes_82 rfl rfl rfl rfl ?_
      refine j_goto 27 dX12_dayGoes_85 rfl ?_
      rw [e2]
      refine ih (h + 1) _ _ (by omega) ?_ (hs.up (by decide))
      rw [up2_row69, hm]
      refine ppu_set (by decide) ?_ (fun q hq hne => ?_)
      · unfold car1
        rw [if_pos ⟨rfl, hdust⟩, ppu_at (by decide)]
        unfold drN
        rw [ec, nI_clamp (by omega)]
      · unfold car1
        rw [if_neg (fun z => hne z.1)]
end MD
