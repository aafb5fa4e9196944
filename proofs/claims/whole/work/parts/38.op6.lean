theorem dep_congr {c c' : Nat → Int32} : ∀ {n : Nat}, (∀ j, j < n → c' j = c j) → dep c' n = dep c n
  | 0, _ => rfl
  | n + 1, h => by
    have ih := dep_congr (c := c) (c' := c') (n := n) (fun j hj => h j (by omega))
    unfold dep
    rw [h n (by omega), ih]
theorem wfC_congr {c c' : Nat → Int32} {n : Nat} (h : ∀ j, j < n → c' j = c j) (w : wfC c n) : wfC c' n := fun k hk => by
  rw [h k hk, dep_congr (fun j hj => h j (by omega))]
  exact w k hk
theorem TX_260 {d e : Nat → Int32} {u : Nat} (hu : u ≤ 1) (h : ∀ k, k < 260 → e k = d k) (t : TXok d u) : TXok e u := by
  obtain ⟨n, h1, h2, h3⟩ := t
  exact ⟨n, h1, by rw [h _ (by omega)]; exact h2, wfC_congr (fun j hj => h _ (by omega)) h3⟩
theorem WF_260 {d e : Nat → Int32} (h : ∀ k, k < 260 → e k = d k) (w : WF d) : WF e := by
  obtain ⟨w1, w2, w3, w4, w5, w6, w7, w8, w9, w10, w11, w12⟩ := w
  exact ⟨by rw [h 0 (by omega)]; exact w1, by rw [h 2 (by omega)]; exact w2, by rw [h 3 (by omega)]; exact w3, by rw [h 4 (by omega)]; exact w4, by rw [h 6 (by omega)]; exact w5, by rw [h 7 (by omega)]; exact w6, fun i hi => by rw [h _ (by omega)]; exact w7 i hi, fun i hi => by rw [h _ (by omega)]; exact w8 i hi, fun i hi => HWr_eq (fun r hr => h _ (by omega)) (w9 i hi), TX_260 (by decide) h w10, TX_260 (by decide) h w11, fun i hi => by rw [h _ (by omega)]; exact w12 i hi⟩
theorem LR_260 {m : Mem} {L u : Nat} {d e : Nat → Int32} (hu : u ≤ 1) (h : ∀ k, k < 260 → e k = d k) (t : TXok d u) (r : LR m L d u) : LR m L e u := by
  obtain ⟨n, h1, h2, h3⟩ := t
  obtain ⟨a, b, c⟩ := r
  refine ⟨by rw [h _ (by omega)]; exact a, b, fun j hj => ?_⟩
  rw [h _ (by omega)] at hj
  have hj2 := hj
  rw [h2, nI_clamp (by omega)] at hj2
  rw [h _ (by omega)]
  exact c j hj
theorem PR_260 {m : Mem} {p : Nat} {d e : Nat → Int32} (h : ∀ k, k < 260 → e k = d k) (w : WF d) (r : PR p m d) : PR p m e := by
  obtain ⟨p4, p5, p6, pt, pw, l0, l1⟩ := r
  exact ⟨by rw [h 6 (by omega)]; exact p4, by rw [h 7 (by omega)]; exact p5, by rw [h 5 (by omega)]; exact p6, fun i hi => by rw [h _ (by omega)]; exact pt i hi, fun i hi => by rw [h _ (by omega)]; exact pw i hi, LR_260 (by decide) h w.t0 l0, LR_260 (by decide) h w.t1 l1⟩
section O6
variable {l : Launch} {g : Gv}
-- trace
set_option maxRecDepth 100000 in
theorem e_trace (m : Mem) (i : Int32) (c : ¬ (0 ≤ i ∧ i < m 58 1)) : JM l g 2 mX11_trace [rf g 0, .int i] m (RF (some (.int (-1000000002))) (errC 2 m)) := by
  refine JM_of (ls := [some (rf g 0), some (.int i)]) pn_X11 rfl rfl ?_
  refine j_iload1 1 dX11_trace_0 rfl ?_
  refine j_if_lt 27 4 dX11_trace_1 rfl rfl (fun h1 => ?_) (fun h1 => ?_)
  · refine j_aload0 28 dX11_trace_27 rfl ?_
    refine j_ldc 30 dX11_trace_28 rfl kc_X11_223 ?_
    refine j_vi1f 33 dX11_trace_30 rfl rfl cl_X11_82 rfl rfl (c_err2 m) ?_
    refine j_iret dX11_trace_33 rfl ?_
    exact ⟨rfl, rfl⟩
  · refine j_iload1 5 dX11_trace_4 rfl ?_
    refine j_aload0 6 dX11_trace_5 rfl ?_
    refine j_getR 9 dX11_trace_6 rfl fl_X11_58 rfl rfl ?_
    refine j_getI 12 dX11_trace_9 rfl fl_X11_273 rfl rfl ?_
    refine j_cmp_ge 27 15 dX11_trace_12 rfl rfl (fun h12 => ?_) (fun h12 => ?_)
    · refine j_aload0 28 dX11_trace_27 rfl ?_
      refine j_ldc 30 dX11_trace_28 rfl kc_X11_223 ?_
      refine j_vi1f 33 dX11_trace_30 rfl rfl cl_X11_82 rfl rfl (c_err2 m) ?_
      refine j_iret dX11_trace_33 rfl ?_
      exact ⟨rfl, rfl⟩
    · exact absurd ⟨Int32.not_lt.mp h1, Int32.not_le.mp h12⟩ c
set_option maxRecDepth 100000 in
theorem f_trace (m : Mem) (i : Int32) (c : ¬ (0 ≤ i ∧ i ≤ m 68 16 - 1)) : JM l g 2 mX12_trace [rf g 68, .int i] m (RF (some (.int (-1000000002))) (errM 2 m)) := by
  refine JM_of (ls := [some (rf g 68), some (.int i)]) pn_X12 rfl rfl ?_
  refine j_iload1 1 dX12_trace_0 rfl ?_
  refine j_i2l 2 dX12_trace_1 rfl ?_
  refine j_lconst 3 (v := 0) dX12_trace_2 rfl rfl ?_
  refine j_aload0 4 dX12_trace_3 rfl ?_
  refine j_getI 7 dX12_trace_4 rfl fl_X12_255 rfl rfl ?_
  refine j_iconst 8 (v := 1) dX12_trace_7 rfl rfl ?_
  refine j_isub 9 dX12_trace_8 rfl ?_
  refine j_i2l 10 dX12_trace_9 rfl ?_
  refine j_st3f 13 dX12_trace_10 rfl rfl cl_X12_47 rfl (c_in m i 0 _) ?_
  refine j_if_eq_bz 25 16 dX12_trace_13 rfl rfl (fun h13 => ?_) (fun h13 => absurd h13 c)
  refine j_aload0 26 dX12_trace_25 rfl ?_
  refine j_iconst 27 (v := 2) dX12_trace_26 rfl rfl ?_
  refine j_vi1f 30 dX12_trace_27 rfl rfl cl_X12_126 rfl rfl (c_finds2 m) ?_
  refine j_iret dX12_trace_30 rfl ?_
  exact ⟨rfl, rfl⟩
set_option maxRecDepth 100000 in
theorem o_trace (m : Mem) (i : Nat) (hi : i < 40) (c : 0 ≤ nI i ∧ nI i < m 58 1) : JM l g 2 mX11_trace [rf g 0, .int (nI i)] m (RF (some (.int (m 59 i))) m) := by
  refine JM_of (ls := [some (rf g 0), some (.int (nI i))]) pn_X11 rfl rfl ?_
  refine j_iload1 1 dX11_trace_0 rfl ?_
  refine j_if_lt 27 4 dX11_trace_1 rfl rfl (fun h1 => absurd h1 (Int32.not_lt.mpr c.1)) (fun h1 => ?_)
  refine j_iload1 5 dX11_trace_4 rfl ?_
  refine j_aload0 6 dX11_trace_5 rfl ?_
  refine j_getR 9 dX11_trace_6 rfl fl_X11_58 rfl rfl ?_
  refine j_getI 12 dX11_trace_9 rfl fl_X11_273 rfl rfl ?_
  refine j_cmp_ge 27 15 dX11_trace_12 rfl rfl (fun h12 => absurd h12 (Int32.not_le.mpr c.2)) (fun h12 => ?_)
  refine j_aload0 16 dX11_trace_15 rfl ?_
  refine j_getR 19 dX11_trace_16 rfl fl_X11_58 rfl rfl ?_
  refine j_getR 22 dX11_trace_19 rfl fl_X11_276 rfl rfl ?_
  refine j_iload1 23 dX11_trace_22 rfl ?_
  refine j_iald 24 _ rfl hi dX11_trace_23 rfl rfl ?_
  refine j_goto 33 dX11_trace_24 rfl ?_
  refine j_iret dX11_trace_33 rfl ?_
  exact ⟨rfl, rfl⟩
set_option maxRecDepth 100000 in
theorem p_trace (m : Mem) (i : Nat) (hi : i < 40) (c : 0 ≤ nI i ∧ nI i ≤ m 68 16 - 1) : JM l g 2 mX12_trace [rf g 68, .int (nI i)] m (RF (some (.int (m 76 i))) m) := by
  refine JM_of (ls := [some (rf g 68), some (.int (nI i))]) pn_X12 rfl rfl ?_
  refine j_iload1 1 dX12_trace_0 rfl ?_
  refine j_i2l 2 dX12_trace_1 rfl ?_
  refine j_lconst 3 (v := 0) dX12_trace_2 rfl rfl ?_
  refine j_aload0 4 dX12_trace_3 rfl ?_
  refine j_getI 7 dX12_trace_4 rfl fl_X12_255 rfl rfl ?_
  refine j_iconst 8 (v := 1) dX12_trace_7 rfl rfl ?_
  refine j_isub 9 dX12_trace_8 rfl ?_
  refine j_i2l 10 dX12_trace_9 rfl ?_
  refine j_st3f 13 dX12_trace_10 rfl rfl cl_X12_47 rfl (c_in m _ 0 _) ?_
  refine j_if_eq_bz 25 16 dX12_trace_13 rfl rfl (fun h13 => absurd c h13) (fun h13 => ?_)
  refine j_aload0 17 dX12_trace_16 rfl ?_
  refine j_getR 20 dX12_trace_17 rfl fl_X12_31 rfl rfl ?_
  refine j_iload1 21 dX12_trace_20 rfl ?_
  refine j_iald 22 _ rfl hi dX12_trace_21 rfl rfl ?_
  refine j_goto 30 dX12_trace_22 rfl ?_
  refine j_iret dX12_trace_30 rfl ?_
  exact ⟨rfl, rfl⟩
theorem lt_pred {x s : Int32} {n : Nat} (hs : s = nI n) (hn : n < 2 ^ 31) : (0 ≤ x ∧ x < s) ↔ (0 ≤ x ∧ x ≤ s - 1) := by
  subst hs
  constructor
  · rintro ⟨a, b⟩
    obtain ⟨j, j1, rfl⟩ := nI_of (Int32.not_lt.mpr a)
    have := (nI_ltI j1 hn).mp b
    refine ⟨a, ?_⟩
    rw [show nI n - 1 = nI (n - 1) from pk_sub (b := 1) (by omega)]
    exact nI_le (by omega) (by omega)
  · rintro ⟨a, b⟩
    obtain ⟨j, j1, rfl⟩ := nI_of (Int32.not_lt.mpr a)
    refine ⟨a, ?_⟩
    by_cases q : n = 0
    · subst q
      exact absurd (Int32.le_trans a b) (by decide)
    · rw [show nI n - 1 = nI (n - 1) from pk_sub (b := 1) (by omega)] at b
      have := (nI_leI j1 (by omega)).mp b
      exact nI_lt (by omega) hn
theorem op_trace {m : Mem} (I : INV m) (i : Int32) : OPr l g mX11_trace mX12_trace [.int i] m := by
  obtain ⟨-, -, -, ⟨a, ⟨n, hn, en⟩, c⟩, -⟩ := id I
  by_cases q : 0 ≤ i ∧ i < m 58 1
  · obtain ⟨j, j1, rfl⟩ := nI_of (Int32.not_lt.mpr q.1)
    have hj : j < n := by have := q.2; rw [a, en] at this; exact (nI_ltI j1 (by omega)).mp this
    refine ⟨2, 2, _, _, by decide, by decide, o_trace m j (by omega) q, fun m' e => ?_⟩
    subst e
    have hq := p_trace (l := l) (g := g) m' j (by omega) ((lt_pred en (by omega)).mp (by rw [← a]; exact q))
    rw [← c j (by rw [en, nI_clamp (by omega)]; exact hj)] at hq
    exact hq.mono (RS_w (fun m2 q => by subst q; exact I))
  · exact OPr_err I (by decide) (by decide) (by decide) (e_trace m i q) (f_trace _ i (fun z => q (by rw [a]; rw [errC_o (by decide)] at z; exact (lt_pred en (by omega)).mpr z)))
-- image, restore
set_option maxRecDepth 100000 in
theorem lp_image {Q : Option Value → Mem → Prop} (m0 : Mem) (kk : J l g 2 mX12_image 27 [some (rf g 68), some (.int (nI 260))] [] (upR m0 70 (fun j => if j < 260 then m0 69 j else m0 70 j)) Q) : ∀ (k i : Nat), i + k = 260 → J l g 2 mX12_image 2 [some (rf g 68), some (.int (nI i))] [] (upR m0 70 (fun j => if j < i then m0 69 j else m0 70 j)) Q := by
  intro k
  induction k with
  | zero =>
    intro i e
    have e : i = 260 := by omega
    subst e
    refine j_iload1 3 dX12_image_2 rfl ?_
    refine j_sipush 6 (v := 260) dX12_image_3 rfl rfl ?_
    refine j_cmp_ge 27 9 dX12_image_6 rfl rfl (fun h6 => ?_) (fun h6 => absurd (by decide) h6)
    exact kk
  | succ k ih =>
    intro i e
    have e2 : nI i + 1 = nI (i + 1) := nI_1 i
    refine j_iload1 3 dX12_image_2 rfl ?_
    refine j_sipush 6 (v := 260) dX12_image_3 rfl rfl ?_
    refine j_cmp_ge 27 9 dX12_image_6 rfl rfl (fun h6 => absurd h6 (show ¬ (260 : Int32) ≤ nI i from nI_ge (a := i) (b := 260) (by omega) (by decide))) (fun h6 => ?_)
    refine j_aload0 10 dX12_image_9 rfl ?_
    refine j_getR 13 dX12_image_10 rfl fl_X12_13 rfl rfl ?_
    refine j_iload1 14 dX12_image_13 rfl ?_
    refine j_aload0 15 dX12_image_14 rfl ?_
    refine j_getR 18 dX12_image_15 rfl fl_X12_7 rfl rfl ?_
    refine j_iload1 19 dX12_image_18 rfl ?_
    refine j_iald 20 _ rfl (show i < 260 by omega) dX12_image_19 rfl rfl ?_
    refine j_iast 21 _ rfl (show i < 260 by omega) dX12_image_20 rfl rfl ?_
    refine j_iinc1 24 (1) dX12_image_21 rfl rfl rfl rfl ?_
    refine j_goto 2 dX12_image_24 rfl ?_
    rw [e2]
    have h := ih (i + 1) (by omega)
    rw [show up2 (upR m0 70 (fun j => if j < i then m0 69 j else m0 70 j)) 70 i (upR m0 70 (fun j => if j < i then m0 69 j else m0 70 j) 69 i) = upR m0 70 (fun j => if j < i + 1 then m0 69 j else m0 70 j) from by
      funext b j
      by_cases q : b = 70
      · subst q
        rw [up2_cell, upR_s, upR_s, upR_n (by decide)]
        by_cases z : j = i
        · rw [if_pos z, z, if_pos (by omega)]
        · rw [if_neg z]
          show (if j < i then _ else _) = (if j < i + 1 then _ else _)
          by_cases y : j < i
          · rw [if_pos y, if_pos (by omega)]
          · rw [if_neg y, if_neg (by omega)]
      · rw [up2_a q, upR_n q, upR_n q]]
    exact h
set_option maxRecDepth 100000 in
theorem lp_restore {Q : Option Value → Mem → Prop} (m0 : Mem) (kk : J l g 2 mX12_restore 40 [some (rf g 68), some (.int (nI 260))] [] (upR m0 69 (fun j => if j < 260 then m0 70 j else m0 69 j)) Q) : ∀ (k i : Nat), i + k = 260 → J l g 2 mX12_restore 15 [some (rf g 68), some (.int (nI i))] [] (upR m0 69 (fun j => if j < i then m0 70 j else m0 69 j)) Q := by
  intro k
  induction k with
  | zero =>
    intro i e
    have e : i = 260 := by omega
    subst e
    refine j_iload1 16 dX12_restore_15 rfl ?_
    refine j_sipush 19 (v := 260) dX12_restore_16 rfl rfl ?_
    refine j_cmp_ge 40 22 dX12_restore_19 rfl rfl (fun h19 => ?_) (fun h19 => absurd (by decide) h19)
    exact kk
  | succ k ih =>
    intro i e
    have e2 : nI i + 1 = nI (i + 1) := nI_1 i
    refine j_iload1 16 dX12_restore_15 rfl ?_
    refine j_sipush 19 (v := 260) dX12_restore_16 rfl rfl ?_
    refine j_cmp_ge 40 22 dX12_restore_19 rfl rfl (fun h19 => absurd h19 (show ¬ (260 : Int32) ≤ nI i from nI_ge (a := i) (b := 260) (by omega) (by decide))) (fun h19 => ?_)
    refine j_aload0 23 dX12_restore_22 rfl ?_
    refine j_getR 26 dX12_restore_23 rfl fl_X12_7 rfl rfl ?_
    refine j_iload1 27 dX12_restore_26 rfl ?_
    refine j_aload0 28 dX12_restore_27 rfl ?_
    refine j_getR 31 dX12_restore_28 rfl fl_X12_13 rfl rfl ?_
    refine j_iload1 32 dX12_restore_31 rfl ?_
    refine j_iald 33 _ rfl (show i < 260 by omega) dX12_restore_32 rfl rfl ?_
    refine j_iast 34 _ rfl (show i < 260 by omega) dX12_restore_33 rfl rfl ?_
    refine j_iinc1 37 (1) dX12_restore_34 rfl rfl rfl rfl ?_
    refine j_goto 15 dX12_restore_37 rfl ?_
    rw [e2]
    have h := ih (i + 1) (by omega)
    rw [show up2 (upR m0 69 (fun j => if j < i then m0 70 j else m0 69 j)) 69 i (upR m0 69 (fun j => if j < i then m0 70 j else m0 69 j) 70 i) = upR m0 69 (fun j => if j < i + 1 then m0 70 j else m0 69 j) from by
      funext b j
      by_cases q : b = 69
      · subst q
        rw [up2_cell, upR_s, upR_s, upR_n (by decide)]
        by_cases z : j = i
        · rw [if_pos z, z, if_pos (by omega)]
        · rw [if_neg z]
          show (if j < i then _ else _) = (if j < i + 1 then _ else _)
          by_cases y : j < i
          · rw [if_pos y, if_pos (by omega)]
          · rw [if_neg y, if_neg (by omega)]
      · rw [up2_a q, upR_n q, upR_n q]]
    exact h
theorem upR_0 {m : Mem} {a b : Nat} : upR m b (fun j => if j < 0 then m a j else m b j) = m := by
  funext c j
  by_cases q : c = b
  · rw [q, upR_s]; exact if_neg (by omega)
  · rw [upR_n q]
set_option maxRecDepth 100000 in
theorem o_image (m : Mem) (d : Nat → Int32) (w : WF d) (hT : TR 9 m d) (hP : PR 36 m d) (h0 : m 50 1 = 9) (h1 : m 54 1 = 99) : JM l g 4 mX11_image [rf g 0] m (RS (some (.int (m 0 10 + 1))) (fun m' => TR 27 m' d ∧ PR 47 m' d ∧ m' 50 1 = 9 ∧ m' 54 1 = 99 ∧ m' 0 10 = m 0 10 + 1 ∧ Sm [0, 27, 28, 29, 30, 31, 32, 33, 34, 35, 47, 48, 49, 50, 51, 54, 55] m m')) := by
  refine JM_of (ls := [some (rf g 0)]) pn_X11 rfl rfl ?_
  refine j_aload0 1 dX11_image_0 rfl ?_
  refine j_getR 4 dX11_image_1 rfl fl_X11_42 rfl rfl ?_
  refine j_aload0 5 dX11_image_4 rfl ?_
  refine j_getR 8 dX11_image_5 rfl fl_X11_35 rfl rfl ?_
  refine j_vi1w 11 dX11_image_8 rfl rfl cl_X11_302 rfl rfl (c_copy_27_9 m) (fun m8 q8 => ?_)
  refine j_aload0 12 dX11_image_11 rfl ?_
  refine j_getR 15 dX11_image_12 rfl fl_X11_52 rfl rfl ?_
  refine j_aload0 16 dX11_image_15 rfl ?_
  refine j_getR 19 dX11_image_16 rfl fl_X11_48 rfl rfl ?_
  refine j_vi1w 22 dX11_image_19 rfl rfl cl_X11_306 rfl rfl (c_pcopy_47_36 m8 d w.t0 w.t1 (PR_same hP (fun b hb => q8.2 b (by simp; omega))) (by rw [q8.2 50 (by decide)]; exact h0) (by rw [q8.2 54 (by decide)]; exact h1)) (fun m19 q19 => ?_)
  refine j_aload0 23 dX11_image_22 rfl ?_
  refine j_dup 24 dX11_image_23 rfl rfl ?_
  refine j_getI 27 dX11_image_24 rfl fl_X11_308 rfl rfl ?_
  refine j_iconst 28 (v := 1) dX11_image_27 rfl rfl ?_
  refine j_iadd 29 dX11_image_28 rfl ?_
  refine j_putI 32 dX11_image_29 rfl fp_X11_308 rfl rfl ?_
  refine j_aload0 33 dX11_image_32 rfl ?_
  refine j_getI 36 dX11_image_33 rfl fl_X11_308 rfl rfl ?_
  refine j_iret dX11_image_36 rfl ?_
  exact ⟨by rw [up2_s, q19.2.2.2 0 (by decide), q8.2 0 (by decide)], TR_same (q8.1 d hT) (fun b b1 b2 => (up2_r (by omega)).trans (q19.2.2.2 b (by simp; omega))), PR_same q19.1 (fun b hb => up2_r (by omega)), by rw [up2_a (by decide), q19.2.1 1 (by decide), q8.2 50 (by decide)]; exact h0, by rw [up2_a (by decide), q19.2.2.1 1 (by decide), q8.2 54 (by decide)]; exact h1, by rw [up2_s, q19.2.2.2 0 (by decide), q8.2 0 (by decide)], ((q8.2.mono (by decide)).trans (q19.2.2.2.mono (by decide))).up (by decide)⟩
set_option maxRecDepth 100000 in
theorem p_image (m : Mem) : JM l g 2 mX12_image [rf g 68] m (RF (some (.int (m 68 3 + 1))) (up2 (upR m 70 (fun j => if j < 260 then m 69 j else m 70 j)) 68 3 (m 68 3 + 1))) := by
  refine JM_of (ls := [some (rf g 68), none]) pn_X12 rfl rfl ?_
  refine j_iconst 1 (v := 0) dX12_image_0 rfl rfl ?_
  refine j_istore1 2 dX12_image_1 rfl rfl rfl ?_
  have h := lp_image (l := l) (g := g) (Q := RF (some (.int (m 68 3 + 1))) (up2 (upR m 70 (fun j => if j < 260 then m 69 j else m 70 j)) 68 3 (m 68 3 + 1))) m (by
    refine j_aload0 28 dX12_image_27 rfl ?_
    refine j_dup 29 dX12_image_28 rfl rfl ?_
    refine j_getI 32 dX12_image_29 rfl fl_X12_276 rfl rfl ?_
    refine j_iconst 33 (v := 1) dX12_image_32 rfl rfl ?_
    refine j_iadd 34 dX12_image_33 rfl ?_
    refine j_putI 37 dX12_image_34 rfl fp_X12_276 rfl rfl ?_
    refine j_aload0 38 dX12_image_37 rfl ?_
    refine j_getI 41 dX12_image_38 rfl fl_X12_276 rfl rfl ?_
    refine j_iret dX12_image_41 rfl ?_
    exact ⟨by rw [up2_s, upR_n (by decide)], by rw [upR_n (by decide)]⟩) 260 0 (Nat.zero_add _)
  rw [upR_0] at h
  exact h
set_option maxRecDepth 100000 in
theorem e_restore (m : Mem) (c : m 0 10 = 0) : JM l g 4 mX11_restore [rf g 0] m (RF (some (.int (-1000000002))) (errC 2 m)) := by
  refine JM_of (ls := [some (rf g 0)]) pn_X11 rfl rfl ?_
  refine j_aload0 1 dX11_restore_0 rfl ?_
  refine j_getI 4 dX11_restore_1 rfl fl_X11_308 rfl rfl ?_
  refine j_if_ne 14 7 dX11_restore_4 rfl rfl (fun h4 => absurd h4 (fun q => q c)) (fun h4 => ?_)
  refine j_aload0 8 dX11_restore_7 rfl ?_
  refine j_ldc 10 dX11_restore_8 rfl kc_X11_223 ?_
  refine j_vi1f 13 dX11_restore_10 rfl rfl cl_X11_82 rfl rfl (c_err2 m) ?_
  refine j_iret dX11_restore_13 rfl ?_
  exact ⟨rfl, rfl⟩
set_option maxRecDepth 100000 in
theorem f_restore (m : Mem) (c : m 68 3 = 0) : JM l g 2 mX12_restore [rf g 68] m (RF (some (.int (-1000000002))) (errM 2 m)) := by
  refine JM_of (ls := [some (rf g 68), none]) pn_X12 rfl rfl ?_
  refine j_aload0 1 dX12_restore_0 rfl ?_
  refine j_getI 4 dX12_restore_1 rfl fl_X12_276 rfl rfl ?_
  refine j_if_ne 13 7 dX12_restore_4 rfl rfl (fun h4 => absurd h4 (fun q => q c)) (fun h4 => ?_)
  refine j_aload0 8 dX12_restore_7 rfl ?_
  refine j_iconst 9 (v := 2) dX12_restore_8 rfl rfl ?_
  refine j_vi1f 12 dX12_restore_9 rfl rfl cl_X12_126 rfl rfl (c_finds2 m) ?_
  refine j_iret dX12_restore_12 rfl ?_
  exact ⟨rfl, rfl⟩
set_option maxRecDepth 100000 in
theorem o_restore (m : Mem) (d : Nat → Int32) (c : m 0 10 ≠ 0) (w : WF d) (hT : TR 27 m d) (hP : PR 47 m d) (h0 : m 39 1 = 9) (h1 : m 43 1 = 99) : JM l g 4 mX11_restore [rf g 0] m (RS (some (.int (d 1))) (fun m' => TR 9 m' d ∧ PR 36 m' d ∧ Sm [9, 10, 11, 12, 13, 14, 15, 16, 17, 36, 37, 38, 39, 40, 43, 44] m m')) := by
  refine JM_of (ls := [some (rf g 0)]) pn_X11 rfl rfl ?_
  refine j_aload0 1 dX11_restore_0 rfl ?_
  refine j_getI 4 dX11_restore_1 rfl fl_X11_308 rfl rfl ?_
  refine j_if_ne 14 7 dX11_restore_4 rfl rfl (fun h4 => ?_) (fun h4 => absurd h4 c)
  refine j_aload0 15 dX11_restore_14 rfl ?_
  refine j_getR 18 dX11_restore_15 rfl fl_X11_35 rfl rfl ?_
  refine j_aload0 19 dX11_restore_18 rfl ?_
  refine j_getR 22 dX11_restore_19 rfl fl_X11_42 rfl rfl ?_
  refine j_vi1w 25 dX11_restore_22 rfl rfl cl_X11_302 rfl rfl (c_copy_9_27 m) (fun m22 q22 => ?_)
  refine j_aload0 26 dX11_restore_25 rfl ?_
  refine j_getR 29 dX11_restore_26 rfl fl_X11_48 rfl rfl ?_
  refine j_aload0 30 dX11_restore_29 rfl ?_
  refine j_getR 33 dX11_restore_30 rfl fl_X11_52 rfl rfl ?_
  refine j_vi1w 36 dX11_restore_33 rfl rfl cl_X11_306 rfl rfl (c_pcopy_36_47 m22 d w.t0 w.t1 (PR_same hP (fun b hb => q22.2 b (by simp; omega))) (by rw [q22.2 39 (by decide)]; exact h0) (by rw [q22.2 43 (by decide)]; exact h1)) (fun m33 q33 => ?_)
  have tt := TR_same (q22.1 d hT) (fun b b1 b2 => q33.2.2.2 b (by simp; omega))
  refine j_aload0 37 dX11_restore_36 rfl ?_
  refine j_getR 40 dX11_restore_37 rfl fl_X11_35 rfl rfl ?_
  refine j_getI 43 dX11_restore_40 rfl fl_X11_202 rfl rfl ?_
  refine j_iret dX11_restore_43 rfl ?_
  exact ⟨by rw [tt.2.2.2.2.1], tt, q33.1, (q22.2.mono (by decide)).trans (q33.2.2.2.mono (by decide))⟩
set_option maxRecDepth 100000 in
theorem mrest_end (m : Mem) (hc : m 68 3 ≠ 0) : J l g 2 mX12_restore 40 [some (rf g 68), some (.int (nI 260))] [] (upR m 69 (fun j => if j < 260 then m 70 j else m 69 j)) (RF (some (.int (m 70 1))) (upR m 69 (fun j => if j < 260 then m 70 j else m 69 j))) := by
  refine j_aload0 41 dX12_restore_40 rfl ?_
  refine j_getR 44 dX12_restore_41 rfl fl_X12_7 rfl rfl ?_
  refine j_iconst 45 (v := 1) dX12_restore_44 rfl rfl ?_
  refine j_iald 46 1 rfl (by first | assumption | decide | omega) dX12_restore_45 rfl rfl ?_
  refine j_iret dX12_restore_46 rfl ?_
  exact ⟨by rw [upR_s]; rfl, rfl⟩
set_option maxRecDepth 100000 in
theorem p_restore (m : Mem) (c : m 68 3 ≠ 0) : JM l g 2 mX12_restore [rf g 68] m (RF (some (.int (m 70 1))) (upR m 69 (fun j => if j < 260 then m 70 j else m 69 j))) := by
  refine JM_of (ls := [some (rf g 68), none]) pn_X12 rfl rfl ?_
  refine j_aload0 1 dX12_restore_0 rfl ?_
  refine j_getI 4 dX12_restore_1 rfl fl_X12_276 rfl rfl ?_
  refine j_if_ne 13 7 dX12_restore_4 rfl rfl (fun h4 => ?_) (fun h4 => absurd h4 c)
  refine j_iconst 14 (v := 0) dX12_restore_13 rfl rfl ?_
  refine j_istore1 15 dX12_restore_14 rfl rfl rfl ?_
  have h := lp_restore (l := l) (g := g) m (mrest_end m c) 260 0 (Nat.zero_add _)
  rw [upR_0] at h
  exact h
theorem op_image {m : Mem} (I : INV m) : OPr l g mX11_image mX12_image [] m := by
  obtain ⟨⟨wf, hd, hT, hP⟩, ⟨⟨a1, a2, a3, a4⟩, b, c, d⟩⟩ := id I
  refine ⟨4, 2, _, _, by decide, by decide, o_image m (m 69) wf hT hP a3 a4, fun m' e => ?_⟩
  obtain ⟨e1, e2, e3, e4, e5, e6⟩ := e
  have e68 : m' 68 = m 68 := e6 68 (by decide)
  have e69 : m' 69 = m 69 := e6 69 (by decide)
  have hq := p_image (l := l) (g := g) m'
  rw [show m' 68 3 + 1 = m 0 10 + 1 by rw [e68, a1]] at hq
  refine hq.mono (RS_w (fun m2 q => ?_))
  subst q
  have o : ∀ x, x ≠ 68 → x ≠ 70 → up2 (upR m' 70 (fun j => if j < 260 then m' 69 j else m' 70 j)) 68 3 (m 0 10 + 1) x = m' x := fun x h1 h2 => (up2_r h1).trans (upR_n h2)
  have r70 : ∀ k, k < 260 → up2 (upR m' 70 (fun j => if j < 260 then m' 69 j else m' 70 j)) 68 3 (m 0 10 + 1) 70 k = m 69 k := fun k hk => by rw [up2_a (by decide), upR_s, ← e69]; exact if_pos hk
  refine ⟨INVd_same I.1 (fun x hx => ?_), ⟨?_, fun _ => ⟨WF_260 r70 wf, by rw [r70 1 (by decide)]; exact hd, ?_, ?_⟩, ?_, ?_⟩, fun k k1 k2 => ?_, TRC_same c ?_ ?_ ?_ ?_, fun s s4 => ?_⟩
  · rw [o x (fun z => by subst z; exact absurd hx (by decide)) (fun z => by subst z; exact absurd hx (by decide))]
    refine e6 x (fun z => ?_)
    simp only [List.mem_cons, List.not_mem_nil, or_false] at z
    rcases z with rfl | rfl | rfl | rfl | rfl | rfl | rfl | rfl | rfl | rfl | rfl | rfl | rfl | rfl | rfl | rfl | rfl <;> exact absurd hx (by decide)
  · rw [o 0 (by decide) (by decide), up2_s]; exact e5
  · exact TR_d (TR_same e1 (fun x x1 x2 => o x (by omega) (by omega))) (fun k k1 _ => r70 k (by omega))
  · exact PR_260 r70 wf (PR_same e2 (fun x hx => o x (by omega) (by omega)))
  · rw [o 50 (by decide) (by decide)]; exact e3
  · rw [o 54 (by decide) (by decide)]; exact e4
  · rw [o 67 (by decide) (by decide), o 72 (by decide) (by decide), e6 67 (by decide), e6 72 (by decide)]; exact b k k1 k2
  · rw [o 58 (by decide) (by decide), e6 58 (by decide)]
  · rw [o 59 (by decide) (by decide), e6 59 (by decide)]
  · rw [o 76 (by decide) (by decide), e6 76 (by decide)]
  · rw [up2_k (by decide), upR_n (by decide), e68]
  · obtain ⟨x1, x2, x3, x4, x5⟩ := d s s4
    have oo : ∀ x, x ≠ 68 → x ≠ 70 → x ∉ [0, 27, 28, 29, 30, 31, 32, 33, 34, 35, 47, 48, 49, 50, 51, 54, 55] → up2 (upR m' 70 (fun j => if j < 260 then m' 69 j else m' 70 j)) 68 3 (m 0 10 + 1) x = m x := fun x h1 h2 h3 => (o x h1 h2).trans (e6 x h3)
    exact ⟨by rw [oo 65 (by decide) (by decide) (by decide), oo 77 (by decide) (by decide) (by decide)]; exact x1, by rw [oo 66 (by decide) (by decide) (by decide), oo 78 (by decide) (by decide) (by decide)]; exact x2, by rw [oo 77 (by decide) (by decide) (by decide)]; exact x3, by rw [oo 78 (by decide) (by decide) (by decide)]; exact x4, fun i hi => by rw [oo (61 + s) (by omega) (by omega) (by simp; omega), oo 79 (by decide) (by decide) (by decide)]; exact x5 i hi⟩
theorem op_restore {m : Mem} (I : INV m) : OPr l g mX11_restore mX12_restore [] m := by
  obtain ⟨⟨wf, hd, hT, hP⟩, ⟨⟨a1, a2, a3, a4⟩, b, c, d⟩⟩ := id I
  by_cases q0 : m 68 3 = 0
  · exact OPr_err I (by decide) (by decide) (by decide) (e_restore m (a1.trans q0)) (f_restore _ (by rw [errC_o (by decide)]; exact q0))
  · obtain ⟨k1, k2, k3, k4⟩ := a2 q0
    refine ⟨4, 2, _, _, by decide, by decide, o_restore m (m 70) (by rw [a1]; exact q0) k1 k3 k4 hP.2.2.2.2.2.1.2.1 hP.2.2.2.2.2.2.2.1, fun m' e => ?_⟩
    obtain ⟨e1, e2, e3⟩ := e
    have e70 : m' 70 = m 70 := e3 70 (by decide)
    have hq := p_restore (l := l) (g := g) m' (by rw [e3 68 (by decide)]; exact q0)
    rw [e70] at hq
    refine hq.mono (RS_w (fun m2 q => ?_))
    subst q
    have r69 : ∀ k, k < 260 → upR m' 69 (fun j => if j < 260 then m 70 j else m' 69 j) 69 k = m 70 k := fun k hk => by rw [upR_s]; exact if_pos hk
    refine INV_new I (fun x hx => ?_) (by rw [upR_n (by decide), e3 68 (by decide)]) ⟨WF_260 r69 k1, by rw [r69 1 (by decide)]; exact k2, TR_d (TR_same e1 (fun x x1 x2 => upR_n (by omega))) (fun k k1 _ => r69 k (by omega)), PR_260 r69 k1 (PR_same e2 (fun x hx => upR_n (by omega)))⟩
    rw [upR_n (fun z => by subst z; exact absurd hx (by decide))]
    refine e3 x (fun z => ?_)
    simp only [List.mem_cons, List.not_mem_nil, or_false] at z
    rcases z with rfl | rfl | rfl | rfl | rfl | rfl | rfl | rfl | rfl | rfl | rfl | rfl | rfl | rfl | rfl | rfl <;> exact absurd hx (by decide)
end O6
