def itD : Nat → (Nat → Int32) → (Nat → Int32)
  | 0, d => d
  | n + 1, d => itD n (dayF d)
def rst (a e : Nat → Int32) : Nat → Int32 := fun j => if j < 88 then a j else e j
theorem swF_k {e : Nat → Int32} {k : Nat} (h8 : hn e ≤ 8) (h : k < 40 ∨ 88 ≤ k) : swF e k = e k := by
  unfold swF
  by_cases q : irm (e 1) (e 3) = 0
  · rw [if_pos q]
    rcases h with h | h
    · exact ppu_lo h
    · exact ppu_hi h8 h
  · rw [if_neg q]
theorem dayF_n {d : Nat → Int32} : hn (dyF (shiF (carF d))) = hn d := by
  show (if 0 = 1 then _ else shiF (carF d) 0).toNatClampNeg = _
  rw [if_neg (by decide)]
  show (if 0 = 4 then _ else ppu _ _ (carF d) 0).toNatClampNeg = _
  rw [if_neg (by decide), ppu_lo (by decide)]
  show (ppu _ _ d 0).toNatClampNeg = _
  rw [ppu_lo (by decide)]
theorem carF_n {d : Nat → Int32} : hn (carF d) = hn d := by
  show (ppu _ _ d 0).toNatClampNeg = _
  rw [ppu_lo (by decide)]
theorem dayF_k {d : Nat → Int32} (w : WF d) {k : Nat} (h : k < 40 ∨ 88 ≤ k) (h1 : k ≠ 1) (h4 : k ≠ 4) : dayF d k = d k := by
  have n8 := w.n.1
  unfold dayF
  rw [swF_k (by rw [dayF_n]; exact n8) h]
  show (if k = 1 then _ else shiF (carF d) k) = _
  rw [if_neg h1]
  show (if k = 4 then _ else ppu _ _ (carF d) k) = _
  rw [if_neg h4]
  rcases h with h | h
  · rw [ppu_lo h]; exact ppu_lo h
  · rw [ppu_hi (by rw [carF_n]; exact n8) h]; exact ppu_hi n8 h
theorem dayF_1 {d : Nat → Int32} (w : WF d) : dayF d 1 = d 1 + 1 := by
  have n8 := w.n.1
  unfold dayF
  rw [swF_k (by rw [dayF_n]; exact n8) (Or.inl (by decide))]
  show (if 1 = 1 then shiF (carF d) 1 + 1 else _) = _
  rw [if_pos rfl]
  show (if 1 = 4 then _ else ppu _ _ (carF d) 1) + 1 = _
  rw [if_neg (by decide), ppu_lo (by decide)]
  show ppu _ _ d 1 + 1 = _
  rw [ppu_lo (by decide)]
theorem nb_1 {x : Int32} {N : Nat} (h : nb x N) : nb (x + 1) (N + 1) := by
  obtain ⟨j, h1, rfl⟩ := h
  exact ⟨j + 1, by omega, nI_1 j⟩
theorem nb_up {x : Int32} {N M : Nat} (h : nb x N) (hN : N ≤ M) : nb x M := by
  obtain ⟨j, h1, h2⟩ := h
  exact ⟨j, by omega, h2⟩
theorem itD_wf : ∀ (n : Nat) {d : Nat → Int32}, WF d → WF (itD n d)
  | 0, _, w => w
  | n + 1, _, w => itD_wf n (WF_day w)
theorem itD_k : ∀ (n : Nat) {d : Nat → Int32}, WF d → ∀ {k : Nat}, (k < 40 ∨ 88 ≤ k) → k ≠ 1 → k ≠ 4 → itD n d k = d k
  | 0, _, _, _, _, _, _ => rfl
  | n + 1, d, w, k, h, h1, h4 => by
    show itD n (dayF d) k = d k
    rw [itD_k n (WF_day w) h h1 h4, dayF_k w h h1 h4]
theorem itD_s (n : Nat) (d : Nat → Int32) : itD (n + 1) d = dayF (itD n d) := by
  induction n generalizing d with
  | zero => rfl
  | succ n ih => exact ih (dayF d)
theorem rst_it {c : Nat} {a d : Nat → Int32} (w : WF d) : rst a (itD c d) = rst a d := by
  funext j
  unfold rst
  by_cases q : j < 88
  · rw [if_pos q, if_pos q]
  · rw [if_neg q, if_neg q]
    exact itD_k c w (Or.inr (by omega)) (by omega) (by omega)
theorem LR_congr {m m' : Mem} {L u : Nat} {d e : Nat → Int32} (hu : u ≤ 1) (h : LR m L d u) (h1 : m' L = m L) (h2 : m' (L + 1) = m (L + 1)) (hk : ∀ k, 88 ≤ k → e k = d k) : LR m' L e u := by
  obtain ⟨a, b, c⟩ := h
  refine ⟨by rw [h1, hk _ (by omega)]; exact a, by rw [h1]; exact b, fun j hj => ?_⟩
  rw [hk _ (by omega)] at hj
  rw [h2, hk _ (by omega)]
  exact c j hj
theorem TR_day {t : Nat} {m : Mem} {e : Nat → Int32} (h : TR t m e) : TR t (up2 m t 13 (m t 13 + 1)) (dyF e) := by
  obtain ⟨s9, s10, s11, s12, s13, ss, st, sh⟩ := h
  have o : ∀ k, k ≠ 1 → dyF e k = e k := fun k hk => if_neg hk
  refine ⟨by rw [up2_k (by decide), o 0 (by decide)]; exact s9, by rw [up2_k (by decide), o 2 (by decide)]; exact s10, by rw [up2_k (by decide), o 3 (by decide)]; exact s11, by rw [up2_k (by decide), o 4 (by decide)]; exact s12, by rw [up2_s, s13]; exact (if_pos rfl).symm, fun i hi => by rw [up2_a (by omega), o _ (by omega)]; exact ss i hi, fun i hi => by rw [up2_a (by omega), o _ (by omega)]; exact st i hi, fun i hi r hr => by rw [up2_a (by omega)]; exact (sh i hi r hr).trans (o _ (by omega)).symm⟩
section DY
variable {l : Launch} {g : Gv}
set_option maxRecDepth 100000 in
theorem c_goDay_9 (m : Mem) (d : Nat → Int32) (w : WF d) (hT : TR 9 m d) (hl0 : LR m 39 d 0) (hl1 : LR m 43 d 1) : JM l g 4 mX10_goDay [rf g 9, rf g 36] m (RS none (fun m' => TR 9 m' (dayF d) ∧ Sm [9, 15, 16, 17, 41, 45] m m')) := by
  refine JM_of (ls := [some (rf g 9), some (rf g 36)]) pn_X10 rfl rfl ?_
  have wn := w.n
  have wc := WF_car w
  have ws := WF_dy (WF_shi wc)
  refine j_aload0 1 dX10_goDay_0 rfl ?_
  refine j_aload1 2 dX10_goDay_1 rfl ?_
  refine j_getR 5 dX10_goDay_2 rfl fl_X10_100 rfl rfl ?_
  refine j_aload0 6 dX10_goDay_5 rfl ?_
  refine j_getI 9 dX10_goDay_6 rfl fl_X10_36 rfl rfl ?_
  refine j_aload0 10 dX10_goDay_9 rfl ?_
  refine j_getI 13 dX10_goDay_10 rfl fl_X10_59 rfl rfl ?_
  refine j_bipush 15 (v := 24) dX10_goDay_13 rfl rfl ?_
  refine j_irm 16 dX10_goDay_15 rfl (by decide) ?_
  refine j_aload0 17 dX10_goDay_16 rfl ?_
  refine j_vi0f 20 dX10_goDay_17 rfl rfl cl_X10_106 rfl rfl (c_dust_9 m d w hT) ?_
  refine j_st1f 23 dX10_goDay_20 rfl rfl cl_X10_110 rfl (c_bitCount m _) ?_
  refine j_top (z := nI (cntF d (hn d))) (by rw [bc_set _ wn.1, cN_cnt]) ?_
  refine j_vi3s 26 dX10_goDay_23 rfl rfl cl_X10_115 rfl rfl (c_gives_39 m d _ _ _ w.t0 hl0) (fun m23 q23 => ?_)
  refine j_top (z := comeF d) (by unfold comeF; rw [hT.2.1, hT.2.2.2.2.1]) ?_
  refine j_vi1w 29 dX10_goDay_26 rfl rfl cl_X10_120 rfl rfl (c_carry_9 m23 d w (comeF d) (textG_nb0 _ _ _ _) (TR_same hT (fun b b1 b2 => q23 b (by simp; omega)))) (fun m26 q26 => ?_)
  refine j_aload0 30 dX10_goDay_29 rfl ?_
  refine j_aload1 31 dX10_goDay_30 rfl ?_
  refine j_getR 34 dX10_goDay_31 rfl fl_X10_124 rfl rfl ?_
  refine j_vi1w 37 dX10_goDay_34 rfl rfl cl_X10_127 rfl rfl (c_shine_9 m26 (carF d) wc q26.1 (LR_congr (by decide) hl1 ((q26.2 43 (by decide)).trans (q23 43 (by decide))) ((q26.2 44 (by decide)).trans (q23 44 (by decide))) (fun k hk => ppu_hi wn.1 hk))) (fun m34 q34 => ?_)
  have s34 : Sm [9, 15, 16, 17, 41, 45] m m34 := ((q23.mono (by decide)).trans (q26.2.mono (by decide))).trans (q34.2.mono (by decide))
  have t34 := TR_day q34.1
  refine j_aload0 38 dX10_goDay_37 rfl ?_
  refine j_dup 39 dX10_goDay_38 rfl rfl ?_
  refine j_getI 42 dX10_goDay_39 rfl fl_X10_59 rfl rfl ?_
  refine j_iconst 43 (v := 1) dX10_goDay_42 rfl rfl ?_
  refine j_iadd 44 dX10_goDay_43 rfl ?_
  refine j_putI 47 dX10_goDay_44 rfl fp_X10_59 rfl rfl ?_
  have s44 : Sm [9, 15, 16, 17, 41, 45] m (up2 m34 9 13 (m34 9 13 + 1)) := s34.up (by decide)
  generalize up2 m34 9 13 (m34 9 13 + 1) = m44 at t34 s44 ⊢
  refine j_aload0 48 dX10_goDay_47 rfl ?_
  refine j_getI 51 dX10_goDay_48 rfl fl_X10_40 rfl rfl ?_
  refine j_if_le 70 54 dX10_goDay_51 rfl rfl (fun h51 => absurd h51 (by rw [t34.2.2.1]; obtain ⟨j, hj, ej⟩ := ws.2.2.1.1; rw [ej]; exact Int32.not_le.mpr (nI_lt (a := 0) (b := j) (Nat.pos_of_ne_zero (fun q => ws.2.2.1.2 (by rw [ej, q]; rfl))) (by omega)))) (fun h51 => ?_)
  refine j_aload0 55 dX10_goDay_54 rfl ?_
  refine j_getI 58 dX10_goDay_55 rfl fl_X10_59 rfl rfl ?_
  refine j_aload0 59 dX10_goDay_58 rfl ?_
  refine j_getI 62 dX10_goDay_59 rfl fl_X10_40 rfl rfl ?_
  refine j_irm 63 dX10_goDay_62 rfl (by rw [t34.2.2.1]; exact ws.2.2.1.2) ?_
  refine j_if_ne 70 66 dX10_goDay_63 rfl rfl (fun h63 => ?_) (fun h63 => ?_)
  · refine j_vret dX10_goDay_70 rfl ?_
    first | exact ⟨rfl, by unfold dayF swF; rw [if_neg (by rw [← t34.2.2.2.2.1, ← t34.2.2.1]; exact h63)]; exact t34, s44⟩ | exact ⟨rfl, by unfold dayF swF; rw [if_pos (by rw [← t34.2.2.2.2.1, ← t34.2.2.1]; exact h63)]; exact q67.1, s44.trans (q67.2.mono (by decide))⟩
  · refine j_aload0 67 dX10_goDay_66 rfl ?_
    refine j_vi0w 70 dX10_goDay_67 rfl rfl cl_X10_130 rfl rfl (c_sweepUp_9 m44 _ ws t34) (fun m67 q67 => ?_)
    refine j_vret dX10_goDay_70 rfl ?_
    first | exact ⟨rfl, by unfold dayF swF; rw [if_neg (by rw [← t34.2.2.2.2.1, ← t34.2.2.1]; exact h63)]; exact t34, s44⟩ | exact ⟨rfl, by unfold dayF swF; rw [if_pos (by rw [← t34.2.2.2.2.1, ← t34.2.2.1]; exact h63)]; exact q67.1, s44.trans (q67.2.mono (by decide))⟩
set_option maxRecDepth 100000 in
theorem lp_goDays_9 {Q : Option Value → Mem → Prop} (c : Nat) (hc : c < 2 ^ 31) (d0 : Nat → Int32) (m0 : Mem) (kk : ∀ m', TR 9 m' (itD c d0) → Sm [9, 15, 16, 17, 41, 45] m0 m' → Q none m') : ∀ (k i : Nat) (d : Nat → Int32) (m : Mem), i + k = c → itD k d = itD c d0 → WF d → TR 9 m d → LR m 39 d 0 → LR m 43 d 1 → Sm [9, 15, 16, 17, 41, 45] m0 m → J l g 5 mX10_goDays 2 [some (rf g 9), some (.int (nI c)), some (rf g 36), some (.int (nI i))] [] m Q := by
  intro k
  induction k with
  | zero =>
    intro i d m e ed w hT hl0 hl1 hs
    have e : i = c := by omega
    subst e
    refine j_iload3 3 dX10_goDays_2 rfl ?_
    refine j_iload1 4 dX10_goDays_3 rfl ?_
    refine j_cmp_ge 18 7 dX10_goDays_4 rfl rfl (fun h4 => ?_) (fun h4 => absurd (Int32.le_refl _) h4)
    refine j_vret dX10_goDays_18 rfl ?_
    exact kk m (by rw [← ed]; exact hT) hs
  | succ k ih =>
    intro i d m e ed w hT hl0 hl1 hs
    have e2 : nI i + 1 = nI (i + 1) := nI_1 i
    refine j_iload3 3 dX10_goDays_2 rfl ?_
    refine j_iload1 4 dX10_goDays_3 rfl ?_
    refine j_cmp_ge 18 7 dX10_goDays_4 rfl rfl (fun h4 => absurd h4 (nI_ge (by omega) hc)) (fun h4 => ?_)
    refine j_aload0 8 dX10_goDays_7 rfl ?_
    refine j_aload2 9 dX10_goDays_8 rfl ?_
    refine j_vi1w 12 dX10_goDays_9 rfl rfl cl_X10_96 rfl rfl (c_goDay_9 m d w hT hl0 hl1) (fun m9 q9 => ?_)
    refine j_iinc3 15 (1) dX10_goDays_12 rfl rfl rfl rfl ?_
    refine j_goto 2 dX10_goDays_15 rfl ?_
    rw [e2]
    exact ih (i + 1) (dayF d) m9 (by omega) ed (WF_day w) q9.1 (LR_congr (by decide) hl0 (q9.2 39 (by decide)) (q9.2 40 (by decide)) (fun k hk => dayF_k w (Or.inr hk) (by omega) (by omega))) (LR_congr (by decide) hl1 (q9.2 43 (by decide)) (q9.2 44 (by decide)) (fun k hk => dayF_k w (Or.inr hk) (by omega) (by omega))) (hs.trans q9.2)
set_option maxRecDepth 100000 in
theorem c_goDays_9 (m : Mem) (d : Nat → Int32) (c : Nat) (hc : c < 2 ^ 31) (w : WF d) (hT : TR 9 m d) (hl0 : LR m 39 d 0) (hl1 : LR m 43 d 1) : JM l g 5 mX10_goDays [rf g 9, .int (nI c), rf g 36] m (RS none (fun m' => TR 9 m' (itD c d) ∧ Sm [9, 15, 16, 17, 41, 45] m m')) := by
  refine JM_of (ls := [some (rf g 9), some (.int (nI c)), some (rf g 36), none]) pn_X10 rfl rfl ?_
  refine j_iconst 1 (v := 0) dX10_goDays_0 rfl rfl ?_
  refine j_istore3 2 dX10_goDays_1 rfl rfl rfl ?_
  exact lp_goDays_9 c hc d m (fun m' a b => ⟨rfl, a, b⟩) c 0 d m (Nat.zero_add _) rfl w hT hl0 hl1 Sm.rf
set_option maxRecDepth 100000 in
theorem c_goDay_18 (m : Mem) (d : Nat → Int32) (w : WF d) (hT : TR 18 m d) (hl0 : LR m 39 d 0) (hl1 : LR m 43 d 1) : JM l g 4 mX10_goDay [rf g 18, rf g 36] m (RS none (fun m' => TR 18 m' (dayF d) ∧ Sm [18, 24, 25, 26, 41, 45] m m')) := by
  refine JM_of (ls := [some (rf g 18), some (rf g 36)]) pn_X10 rfl rfl ?_
  have wn := w.n
  have wc := WF_car w
  have ws := WF_dy (WF_shi wc)
  refine j_aload0 1 dX10_goDay_0 rfl ?_
  refine j_aload1 2 dX10_goDay_1 rfl ?_
  refine j_getR 5 dX10_goDay_2 rfl fl_X10_100 rfl rfl ?_
  refine j_aload0 6 dX10_goDay_5 rfl ?_
  refine j_getI 9 dX10_goDay_6 rfl fl_X10_36 rfl rfl ?_
  refine j_aload0 10 dX10_goDay_9 rfl ?_
  refine j_getI 13 dX10_goDay_10 rfl fl_X10_59 rfl rfl ?_
  refine j_bipush 15 (v := 24) dX10_goDay_13 rfl rfl ?_
  refine j_irm 16 dX10_goDay_15 rfl (by decide) ?_
  refine j_aload0 17 dX10_goDay_16 rfl ?_
  refine j_vi0f 20 dX10_goDay_17 rfl rfl cl_X10_106 rfl rfl (c_dust_18 m d w hT) ?_
  refine j_st1f 23 dX10_goDay_20 rfl rfl cl_X10_110 rfl (c_bitCount m _) ?_
  refine j_top (z := nI (cntF d (hn d))) (by rw [bc_set _ wn.1, cN_cnt]) ?_
  refine j_vi3s 26 dX10_goDay_23 rfl rfl cl_X10_115 rfl rfl (c_gives_39 m d _ _ _ w.t0 hl0) (fun m23 q23 => ?_)
  refine j_top (z := comeF d) (by unfold comeF; rw [hT.2.1, hT.2.2.2.2.1]) ?_
  refine j_vi1w 29 dX10_goDay_26 rfl rfl cl_X10_120 rfl rfl (c_carry_18 m23 d w (comeF d) (textG_nb0 _ _ _ _) (TR_same hT (fun b b1 b2 => q23 b (by simp; omega)))) (fun m26 q26 => ?_)
  refine j_aload0 30 dX10_goDay_29 rfl ?_
  refine j_aload1 31 dX10_goDay_30 rfl ?_
  refine j_getR 34 dX10_goDay_31 rfl fl_X10_124 rfl rfl ?_
  refine j_vi1w 37 dX10_goDay_34 rfl rfl cl_X10_127 rfl rfl (c_shine_18 m26 (carF d) wc q26.1 (LR_congr (by decide) hl1 ((q26.2 43 (by decide)).trans (q23 43 (by decide))) ((q26.2 44 (by decide)).trans (q23 44 (by decide))) (fun k hk => ppu_hi wn.1 hk))) (fun m34 q34 => ?_)
  have s34 : Sm [18, 24, 25, 26, 41, 45] m m34 := ((q23.mono (by decide)).trans (q26.2.mono (by decide))).trans (q34.2.mono (by decide))
  have t34 := TR_day q34.1
  refine j_aload0 38 dX10_goDay_37 rfl ?_
  refine j_dup 39 dX10_goDay_38 rfl rfl ?_
  refine j_getI 42 dX10_goDay_39 rfl fl_X10_59 rfl rfl ?_
  refine j_iconst 43 (v := 1) dX10_goDay_42 rfl rfl ?_
  refine j_iadd 44 dX10_goDay_43 rfl ?_
  refine j_putI 47 dX10_goDay_44 rfl fp_X10_59 rfl rfl ?_
  have s44 : Sm [18, 24, 25, 26, 41, 45] m (up2 m34 18 13 (m34 18 13 + 1)) := s34.up (by decide)
  generalize up2 m34 18 13 (m34 18 13 + 1) = m44 at t34 s44 ⊢
  refine j_aload0 48 dX10_goDay_47 rfl ?_
  refine j_getI 51 dX10_goDay_48 rfl fl_X10_40 rfl rfl ?_
  refine j_if_le 70 54 dX10_goDay_51 rfl rfl (fun h51 => absurd h51 (by rw [t34.2.2.1]; obtain ⟨j, hj, ej⟩ := ws.2.2.1.1; rw [ej]; exact Int32.not_le.mpr (nI_lt (a := 0) (b := j) (Nat.pos_of_ne_zero (fun q => ws.2.2.1.2 (by rw [ej, q]; rfl))) (by omega)))) (fun h51 => ?_)
  refine j_aload0 55 dX10_goDay_54 rfl ?_
  refine j_getI 58 dX10_goDay_55 rfl fl_X10_59 rfl rfl ?_
  refine j_aload0 59 dX10_goDay_58 rfl ?_
  refine j_getI 62 dX10_goDay_59 rfl fl_X10_40 rfl rfl ?_
  refine j_irm 63 dX10_goDay_62 rfl (by rw [t34.2.2.1]; exact ws.2.2.1.2) ?_
  refine j_if_ne 70 66 dX10_goDay_63 rfl rfl (fun h63 => ?_) (fun h63 => ?_)
  · refine j_vret dX10_goDay_70 rfl ?_
    first | exact ⟨rfl, by unfold dayF swF; rw [if_neg (by rw [← t34.2.2.2.2.1, ← t34.2.2.1]; exact h63)]; exact t34, s44⟩ | exact ⟨rfl, by unfold dayF swF; rw [if_pos (by rw [← t34.2.2.2.2.1, ← t34.2.2.1]; exact h63)]; exact q67.1, s44.trans (q67.2.mono (by decide))⟩
  · refine j_aload0 67 dX10_goDay_66 rfl ?_
    refine j_vi0w 70 dX10_goDay_67 rfl rfl cl_X10_130 rfl rfl (c_sweepUp_18 m44 _ ws t34) (fun m67 q67 => ?_)
    refine j_vret dX10_goDay_70 rfl ?_
    first | exact ⟨rfl, by unfold dayF swF; rw [if_neg (by rw [← t34.2.2.2.2.1, ← t34.2.2.1]; exact h63)]; exact t34, s44⟩ | exact ⟨rfl, by unfold dayF swF; rw [if_pos (by rw [← t34.2.2.2.2.1, ← t34.2.2.1]; exact h63)]; exact q67.1, s44.trans (q67.2.mono (by decide))⟩
set_option maxRecDepth 100000 in
theorem lp_goDays_18 {Q : Option Value → Mem → Prop} (c : Nat) (hc : c < 2 ^ 31) (d0 : Nat → Int32) (m0 : Mem) (kk : ∀ m', TR 18 m' (itD c d0) → Sm [18, 24, 25, 26, 41, 45] m0 m' → Q none m') : ∀ (k i : Nat) (d : Nat → Int32) (m : Mem), i + k = c → itD k d = itD c d0 → WF d → TR 18 m d → LR m 39 d 0 → LR m 43 d 1 → Sm [18, 24, 25, 26, 41, 45] m0 m → J l g 5 mX10_goDays 2 [some (rf g 18), some (.int (nI c)), some (rf g 36), some (.int (nI i))] [] m Q := by
  intro k
  induction k with
  | zero =>
    intro i d m e ed w hT hl0 hl1 hs
    have e : i = c := by omega
    subst e
    refine j_iload3 3 dX10_goDays_2 rfl ?_
    refine j_iload1 4 dX10_goDays_3 rfl ?_
    refine j_cmp_ge 18 7 dX10_goDays_4 rfl rfl (fun h4 => ?_) (fun h4 => absurd (Int32.le_refl _) h4)
    refine j_vret dX10_goDays_18 rfl ?_
    exact kk m (by rw [← ed]; exact hT) hs
  | succ k ih =>
    intro i d m e ed w hT hl0 hl1 hs
    have e2 : nI i + 1 = nI (i + 1) := nI_1 i
    refine j_iload3 3 dX10_goDays_2 rfl ?_
    refine j_iload1 4 dX10_goDays_3 rfl ?_
    refine j_cmp_ge 18 7 dX10_goDays_4 rfl rfl (fun h4 => absurd h4 (nI_ge (by omega) hc)) (fun h4 => ?_)
    refine j_aload0 8 dX10_goDays_7 rfl ?_
    refine j_aload2 9 dX10_goDays_8 rfl ?_
    refine j_vi1w 12 dX10_goDays_9 rfl rfl cl_X10_96 rfl rfl (c_goDay_18 m d w hT hl0 hl1) (fun m9 q9 => ?_)
    refine j_iinc3 15 (1) dX10_goDays_12 rfl rfl rfl rfl ?_
    refine j_goto 2 dX10_goDays_15 rfl ?_
    rw [e2]
    exact ih (i + 1) (dayF d) m9 (by omega) ed (WF_day w) q9.1 (LR_congr (by decide) hl0 (q9.2 39 (by decide)) (q9.2 40 (by decide)) (fun k hk => dayF_k w (Or.inr hk) (by omega) (by omega))) (LR_congr (by decide) hl1 (q9.2 43 (by decide)) (q9.2 44 (by decide)) (fun k hk => dayF_k w (Or.inr hk) (by omega) (by omega))) (hs.trans q9.2)
set_option maxRecDepth 100000 in
theorem c_goDays_18 (m : Mem) (d : Nat → Int32) (c : Nat) (hc : c < 2 ^ 31) (w : WF d) (hT : TR 18 m d) (hl0 : LR m 39 d 0) (hl1 : LR m 43 d 1) : JM l g 5 mX10_goDays [rf g 18, .int (nI c), rf g 36] m (RS none (fun m' => TR 18 m' (itD c d) ∧ Sm [18, 24, 25, 26, 41, 45] m m')) := by
  refine JM_of (ls := [some (rf g 18), some (.int (nI c)), some (rf g 36), none]) pn_X10 rfl rfl ?_
  refine j_iconst 1 (v := 0) dX10_goDays_0 rfl rfl ?_
  refine j_istore3 2 dX10_goDays_1 rfl rfl rfl ?_
  exact lp_goDays_18 c hc d m (fun m' a b => ⟨rfl, a, b⟩) c 0 d m (Nat.zero_add _) rfl w hT hl0 hl1 Sm.rf
set_option maxRecDepth 100000 in
theorem lp_daysGo {Q : Option Value → Mem → Prop} (c : Nat) (hc : c < 10000) (d0 : Nat → Int32) (m0 : Mem) (kk : ∀ m', m' 69 = itD c d0 → Sm [69, 73, 75] m0 m' → Q none m') : ∀ (k i : Nat) (m : Mem), i + k = c → itD k (m 69) = itD c d0 → WF (m 69) → nb (m 69 1) (19999 - k) → Sm [69, 73, 75] m0 m → J l g 5 mX12_daysGo 2 [some (rf g 68), some (.int (nI c)), some (.int (nI i))] [] m Q := by
  intro k
  induction k with
  | zero =>
    intro i m e ed w hd hs
    have e : i = c := by omega
    subst e
    refine j_iload2 3 dX12_daysGo_2 rfl ?_
    refine j_iload1 4 dX12_daysGo_3 rfl ?_
    refine j_cmp_ge 17 7 dX12_daysGo_4 rfl rfl (fun h4 => ?_) (fun h4 => absurd (Int32.le_refl _) h4)
    refine j_vret dX12_daysGo_17 rfl ?_
    exact kk m ed hs
  | succ k ih =>
    intro i m e ed w hd hs
    have e2 : nI i + 1 = nI (i + 1) := nI_1 i
    refine j_iload2 3 dX12_daysGo_2 rfl ?_
    refine j_iload1 4 dX12_daysGo_3 rfl ?_
    refine j_cmp_ge 17 7 dX12_daysGo_4 rfl rfl (fun h4 => absurd h4 (nI_ge (by omega) (by omega))) (fun h4 => ?_)
    refine j_aload0 8 dX12_daysGo_7 rfl ?_
    refine j_vi0w 11 dX12_daysGo_8 rfl rfl cl_X12_171 rfl rfl (c_mday m w (nb_up hd (by omega))) (fun m8 q8 => ?_)
    refine j_iinc2 14 (1) dX12_daysGo_11 rfl rfl rfl rfl ?_
    refine j_goto 2 dX12_daysGo_14 rfl ?_
    rw [e2]
    exact ih (i + 1) m8 (by omega) (by rw [q8.1]; exact ed) (by rw [q8.1]; exact WF_day w) (by rw [q8.1, dayF_1 w]; exact nb_up (nb_1 hd) (by omega)) (hs.trans q8.2)
set_option maxRecDepth 100000 in
theorem c_daysGo (m : Mem) (c : Nat) (hc : c ≤ 60) (w : WF (m 69)) (hd : nb (m 69 1) 19000) : JM l g 5 mX12_daysGo [rf g 68, .int (nI c)] m (RS none (fun m' => m' 69 = itD c (m 69) ∧ Sm [69, 73, 75] m m')) := by
  refine JM_of (ls := [some (rf g 68), some (.int (nI c)), none]) pn_X12 rfl rfl ?_
  refine j_iconst 1 (v := 0) dX12_daysGo_0 rfl rfl ?_
  refine j_istore2 2 dX12_daysGo_1 rfl rfl rfl ?_
  exact lp_daysGo c (by omega) (m 69) m (fun m' a b => ⟨rfl, a, b⟩) c 0 m (Nat.zero_add _) rfl w (nb_up hd (by omega)) Sm.rf
set_option maxRecDepth 100000 in
theorem lp_keepAside {Q : Option Value → Mem → Prop} (m0 : Mem) (kk : Q none (upR m0 71 (rst (m0 69) (m0 71)))) : ∀ (k i : Nat), i + k = 88 → J l g 0 mX12_keepAside 2 [some (rf g 68), some (.int (nI i))] [] (upR m0 71 (fun j => if j < i then m0 69 j else m0 71 j)) Q := by
  intro k
  induction k with
  | zero =>
    intro i e
    have e : i = 88 := by omega
    subst e
    refine j_iload1 3 dX12_keepAside_2 rfl ?_
    refine j_bipush 5 (v := 88) dX12_keepAside_3 rfl rfl ?_
    refine j_cmp_ge 26 8 dX12_keepAside_5 rfl rfl (fun h5 => ?_) (fun h5 => absurd (by decide) h5)
    refine j_vret dX12_keepAside_26 rfl ?_
    exact kk
  | succ k ih =>
    intro i e
    have e2 : nI i + 1 = nI (i + 1) := nI_1 i
    refine j_iload1 3 dX12_keepAside_2 rfl ?_
    refine j_bipush 5 (v := 88) dX12_keepAside_3 rfl rfl ?_
    refine j_cmp_ge 26 8 dX12_keepAside_5 rfl rfl (fun h5 => absurd h5 (show ¬ (88 : Int32) ≤ nI i from nI_ge (a := i) (b := 88) (by omega) (by decide))) (fun h5 => ?_)
    refine j_aload0 9 dX12_keepAside_8 rfl ?_
    refine j_getR 12 dX12_keepAside_9 rfl fl_X12_16 rfl rfl ?_
    refine j_iload1 13 dX12_keepAside_12 rfl ?_
    refine j_aload0 14 dX12_keepAside_13 rfl ?_
    refine j_getR 17 dX12_keepAside_14 rfl fl_X12_7 rfl rfl ?_
    refine j_iload1 18 dX12_keepAside_17 rfl ?_
    refine j_iald 19 _ rfl (show i < 260 by omega) dX12_keepAside_18 rfl rfl ?_
    refine j_iast 20 _ rfl (show i < 88 by omega) dX12_keepAside_19 rfl rfl ?_
    refine j_iinc1 23 (1) dX12_keepAside_20 rfl rfl rfl rfl ?_
    refine j_goto 2 dX12_keepAside_23 rfl ?_
    rw [e2]
    have h := ih (i + 1) (by omega)
    rw [show up2 (upR m0 71 (fun j => if j < i then m0 69 j else m0 71 j)) 71 i (upR m0 71 (fun j => if j < i then m0 69 j else m0 71 j) 69 i) = upR m0 71 (fun j => if j < i + 1 then m0 69 j else m0 71 j) from by
      funext b j
      by_cases q : b = 71
      · subst q
        rw [up2_cell, upR_s, upR_s, upR_n (by decide)]
        by_cases z : j = i
        · rw [if_pos z, z, if_pos (by omega)]
        · rw [if_neg z]
          show (if j < i then _ else _) = (if j < i + 1 then _ else _)
          by_cases y : j < i
          · rw [if_pos y, if_pos (by omega)]
          · rw [if_neg y, if_neg (by omega)]
      · rw [up2_a q, upR_n q, upR_n q]]
    exact h
set_option maxRecDepth 100000 in
theorem c_keepAside (m : Mem) : JM l g 0 mX12_keepAside [rf g 68] m (RF none (upR m 71 (rst (m 69) (m 71)))) := by
  refine JM_of (ls := [some (rf g 68), none]) pn_X12 rfl rfl ?_
  refine j_iconst 1 (v := 0) dX12_keepAside_0 rfl rfl ?_
  refine j_istore1 2 dX12_keepAside_1 rfl rfl rfl ?_
  have h := lp_keepAside (l := l) (g := g) (Q := RF none (upR m 71 (rst (m 69) (m 71)))) m ⟨rfl, rfl⟩ 88 0 (Nat.zero_add _)
  rw [show upR m 71 (fun j => if j < 0 then m 69 j else m 71 j) = m from by
    funext b j
    by_cases q : b = 71
    · rw [q, upR_s]; exact if_neg (by omega)
    · rw [upR_n q]] at h
  exact h
set_option maxRecDepth 100000 in
theorem lp_putBack {Q : Option Value → Mem → Prop} (m0 : Mem) (kk : Q none (upR m0 69 (rst (m0 71) (m0 69)))) : ∀ (k i : Nat), i + k = 88 → J l g 0 mX12_putBack 2 [some (rf g 68), some (.int (nI i))] [] (upR m0 69 (fun j => if j < i then m0 71 j else m0 69 j)) Q := by
  intro k
  induction k with
  | zero =>
    intro i e
    have e : i = 88 := by omega
    subst e
    refine j_iload1 3 dX12_putBack_2 rfl ?_
    refine j_bipush 5 (v := 88) dX12_putBack_3 rfl rfl ?_
    refine j_cmp_ge 26 8 dX12_putBack_5 rfl rfl (fun h5 => ?_) (fun h5 => absurd (by decide) h5)
    refine j_vret dX12_putBack_26 rfl ?_
    exact kk
  | succ k ih =>
    intro i e
    have e2 : nI i + 1 = nI (i + 1) := nI_1 i
    refine j_iload1 3 dX12_putBack_2 rfl ?_
    refine j_bipush 5 (v := 88) dX12_putBack_3 rfl rfl ?_
    refine j_cmp_ge 26 8 dX12_putBack_5 rfl rfl (fun h5 => absurd h5 (show ¬ (88 : Int32) ≤ nI i from nI_ge (a := i) (b := 88) (by omega) (by decide))) (fun h5 => ?_)
    refine j_aload0 9 dX12_putBack_8 rfl ?_
    refine j_getR 12 dX12_putBack_9 rfl fl_X12_7 rfl rfl ?_
    refine j_iload1 13 dX12_putBack_12 rfl ?_
    refine j_aload0 14 dX12_putBack_13 rfl ?_
    refine j_getR 17 dX12_putBack_14 rfl fl_X12_16 rfl rfl ?_
    refine j_iload1 18 dX12_putBack_17 rfl ?_
    refine j_iald 19 _ rfl (show i < 88 by omega) dX12_putBack_18 rfl rfl ?_
    refine j_iast 20 _ rfl (show i < 260 by omega) dX12_putBack_19 rfl rfl ?_
    refine j_iinc1 23 (1) dX12_putBack_20 rfl rfl rfl rfl ?_
    refine j_goto 2 dX12_putBack_23 rfl ?_
    rw [e2]
    have h := ih (i + 1) (by omega)
    rw [show up2 (upR m0 69 (fun j => if j < i then m0 71 j else m0 69 j)) 69 i (upR m0 69 (fun j => if j < i then m0 71 j else m0 69 j) 71 i) = upR m0 69 (fun j => if j < i + 1 then m0 71 j else m0 69 j) from by
      funext b j
      by_cases q : b = 69
      · subst q
        rw [up2_cell, upR_s, upR_s, upR_n (by decide)]
        by_cases z : j = i
        · rw [if_pos z, z, if_pos (by omega)]
        · rw [if_neg z]
          show (if j < i then _ else _) = (if j < i + 1 then _ else _)
          by_cases y : j < i
          · rw [if_pos y, if_pos (by omega)]
          · rw [if_neg y, if_neg (by omega)]
      · rw [up2_a q, upR_n q, upR_n q]]
    exact h
set_option maxRecDepth 100000 in
theorem c_putBack (m : Mem) : JM l g 0 mX12_putBack [rf g 68] m (RF none (upR m 69 (rst (m 71) (m 69)))) := by
  refine JM_of (ls := [some (rf g 68), none]) pn_X12 rfl rfl ?_
  refine j_iconst 1 (v := 0) dX12_putBack_0 rfl rfl ?_
  refine j_istore1 2 dX12_putBack_1 rfl rfl rfl ?_
  have h := lp_putBack (l := l) (g := g) (Q := RF none (upR m 69 (rst (m 71) (m 69)))) m ⟨rfl, rfl⟩ 88 0 (Nat.zero_add _)
  rw [show upR m 69 (fun j => if j < 0 then m 71 j else m 69 j) = m from by
    funext b j
    by_cases q : b = 69
    · rw [q, upR_s]; exact if_neg (by omega)
    · rw [upR_n q]] at h
  exact h
set_option maxRecDepth 100000 in
theorem c_behind (m : Mem) (c k : Nat) (hc : c ≤ 60) (hk : k < 260) (w : WF (m 69)) (hd : nb (m 69 1) 19000) : JM l g 6 mX12_behind [rf g 68, .int (nI c), .int (nI k)] m (RS (some (.int (itD c (m 69) k))) (fun m' => m' 69 = rst (m 71) (m 69) ∧ Sm [69, 73, 75] m m')) := by
  refine JM_of (ls := [some (rf g 68), some (.int (nI c)), some (.int (nI k)), none]) pn_X12 rfl rfl ?_
  refine j_aload0 1 dX12_behind_0 rfl ?_
  refine j_iload1 2 dX12_behind_1 rfl ?_
  refine j_vi1w 5 dX12_behind_2 rfl rfl cl_X12_214 rfl rfl (c_daysGo m c hc w hd) (fun m2 q2 => ?_)
  refine j_aload0 6 dX12_behind_5 rfl ?_
  refine j_getR 9 dX12_behind_6 rfl fl_X12_7 rfl rfl ?_
  refine j_iload2 10 dX12_behind_9 rfl ?_
  refine j_iald 11 _ rfl hk dX12_behind_10 rfl rfl ?_
  refine j_istore3 12 dX12_behind_11 rfl rfl rfl ?_
  refine j_aload0 13 dX12_behind_12 rfl ?_
  refine j_vi0v 16 dX12_behind_13 rfl rfl cl_X12_223 rfl rfl (c_putBack _) ?_
  refine j_iload3 17 dX12_behind_16 rfl ?_
  refine j_iret dX12_behind_17 rfl ?_
  exact ⟨by rw [q2.1], by rw [upR_s, q2.2 71 (by decide), q2.1, rst_it w], q2.2.row (by decide)⟩
end DY
