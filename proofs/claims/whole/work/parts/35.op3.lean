/-- the row with another HEIR h (and how many there are) -/
def blkF (d : Nat → Int32) (c0 : Int32) (h : Nat) (v : Nat → Int32) : Nat → Int32 := fun k => if k = 0 then c0 else if 40 + 6 * h ≤ k ∧ k < 46 + 6 * h then v (k - (40 + 6 * h)) else d k
theorem blk_0 {d : Nat → Int32} {c0 : Int32} {h : Nat} {v : Nat → Int32} : blkF d c0 h v 0 = c0 := if_pos rfl
theorem blk_h {d : Nat → Int32} {c0 : Int32} {h r : Nat} {v : Nat → Int32} (hr : r < 6) : hf (blkF d c0 h v) h r = v r := by
  show (if 40 + 6 * h + r = 0 then _ else if 40 + 6 * h ≤ 40 + 6 * h + r ∧ 40 + 6 * h + r < 46 + 6 * h then v (40 + 6 * h + r - (40 + 6 * h)) else _) = v r
  rw [if_neg (by omega), if_pos ⟨by omega, by omega⟩, show 40 + 6 * h + r - (40 + 6 * h) = r by omega]
theorem blk_o {d : Nat → Int32} {c0 : Int32} {h k : Nat} {v : Nat → Int32} (h0 : k ≠ 0) (hk : ¬ (40 + 6 * h ≤ k ∧ k < 46 + 6 * h)) : blkF d c0 h v k = d k := by
  show (if k = 0 then _ else if _ then _ else _) = _
  rw [if_neg h0, if_neg hk]
theorem blk_of {d e : Nat → Int32} {c0 : Int32} {h : Nat} {v : Nat → Int32} (h0 : e 0 = c0) (h1 : ∀ r, r < 6 → hf e h r = v r) (h2 : ∀ k, k ≠ 0 → ¬ (40 + 6 * h ≤ k ∧ k < 46 + 6 * h) → e k = d k) : e = blkF d c0 h v := by
  funext k
  by_cases q : k = 0
  · rw [q, blk_0, h0]
  · by_cases z : 40 + 6 * h ≤ k ∧ k < 46 + 6 * h
    · have := h1 (k - (40 + 6 * h)) (by omega)
      have e2 := blk_h (d := d) (c0 := c0) (h := h) (v := v) (r := k - (40 + 6 * h)) (by omega)
      rw [show k = 40 + 6 * h + (k - (40 + 6 * h)) by omega]
      exact this.trans e2.symm
    · rw [blk_o q z]; exact h2 k q z
theorem WF_blk {d : Nat → Int32} {c0 : Int32} {h : Nat} {v : Nat → Int32} (w : WF d) (hc : nb c0 9) (h8 : h < 8) (hv : HWr v) : WF (blkF d c0 h v) := by
  obtain ⟨w1, w2, w3, w4, w5, w6, w7, w8, w9, w10, w11, w12⟩ := w
  have o : ∀ k, k ≠ 0 → ¬ (40 + 6 * h ≤ k ∧ k < 46 + 6 * h) → blkF d c0 h v k = d k := fun k a b => blk_o a b
  refine ⟨by rw [blk_0]; exact hc, by rw [o 2 (by omega) (by omega)]; exact w2, by rw [o 3 (by omega) (by omega)]; exact w3, by rw [o 4 (by omega) (by omega)]; exact w4, by rw [o 6 (by omega) (by omega)]; exact w5, by rw [o 7 (by omega) (by omega)]; exact w6, fun j hj => by rw [o _ (by omega) (by omega)]; exact w7 j hj, fun j hj => by rw [o _ (by omega) (by omega)]; exact w8 j hj, fun i hi => ?_, TX_congr (by decide) (fun j hj => o j (by omega) (by omega)) w10, TX_congr (by decide) (fun j hj => o j (by omega) (by omega)) w11, fun j hj => by rw [o _ (by omega) (by omega)]; exact w12 j hj⟩
  by_cases q : i = h
  · rw [q]; exact HWr_eq (fun r hr => blk_h hr) hv
  · exact HWr_eq (fun r hr => o _ (by omega) (by omega)) (w9 i hi)
/-- the class's cells of HEIR h are v, how many there are c0 -/
def HCl (m m' : Mem) (c0 : Int32) (h : Nat) (v : Nat → Int32) : Prop := m' 9 9 = c0 ∧ (∀ k, k ≠ 9 → m' 9 k = m 9 k) ∧ (∀ r, r < 6 → m' (12 + r) h = v r) ∧ (∀ r, r < 6 → ∀ i, i ≠ h → m' (12 + r) i = m (12 + r) i) ∧ Sm [9, 12, 13, 14, 15, 16, 17] m m'
theorem TR_blk {m m' : Mem} {d : Nat → Int32} {c0 : Int32} {h : Nat} {v : Nat → Int32} (hT : TR 9 m d) (hc : HCl m m' c0 h v) : TR 9 m' (blkF d c0 h v) := by
  obtain ⟨t9, t10, t11, t12, t13, ts, tt, th⟩ := hT
  obtain ⟨c1, c2, c3, c4, c5⟩ := hc
  have o : ∀ k, k ≠ 0 → ¬ (40 + 6 * h ≤ k ∧ k < 46 + 6 * h) → blkF d c0 h v k = d k := fun k a b => blk_o a b
  refine ⟨by rw [c1, blk_0], by rw [c2 _ (by decide), o 2 (by omega) (by omega)]; exact t10, by rw [c2 _ (by decide), o 3 (by omega) (by omega)]; exact t11, by rw [c2 _ (by decide), o 4 (by omega) (by omega)]; exact t12, by rw [c2 _ (by decide), o 1 (by omega) (by omega)]; exact t13, fun i hi => by rw [c5 10 (by decide), o _ (by omega) (by omega)]; exact ts i hi, fun i hi => by rw [c5 11 (by decide), o _ (by omega) (by omega)]; exact tt i hi, fun i hi r hr => ?_⟩
  by_cases q : i = h
  · rw [q, blk_h hr]; exact c3 r hr
  · exact (c4 r hr i q).trans ((th i hi r hr).trans (o _ (by omega) (by omega)).symm)
theorem INV_blk {m m1 m2 : Mem} (I : INV m) {c0 : Int32} {h : Nat} {v : Nat → Int32} (hc : HCl m m1 c0 h v) (hM : m2 69 = blkF (m1 69) c0 h v) (hs : Sm [69] m1 m2) (h0 : nb c0 9) (h8 : h < 8) (hv : HWr v) : INV m2 := by
  obtain ⟨⟨wf, hd, hT, hP⟩, -⟩ := id I
  have e69 : m1 69 = m 69 := hc.2.2.2.2 69 (by decide)
  rw [e69] at hM
  refine INV_new I (fun b hb => ?_) (by rw [hs 68 (by decide), hc.2.2.2.2 68 (by decide)]) ⟨by rw [hM]; exact WF_blk wf h0 h8 hv, by rw [hM, blk_o (by omega) (by omega)]; exact hd, by rw [hM]; exact TR_same (TR_blk hT hc) (fun b b1 b2 => hs b (by simp; omega)), ?_⟩
  · rw [hs b (fun z => by simp only [List.mem_singleton] at z; subst z; exact absurd hb (by decide))]
    refine hc.2.2.2.2 b (fun z => ?_)
    simp only [List.mem_cons, List.not_mem_nil, or_false] at z
    rcases z with rfl | rfl | rfl | rfl | rfl | rfl | rfl <;> exact absurd hb (by decide)
  · rw [hM]
    exact PR_same (PR_d hP (fun k hk => blk_o (by omega) (by omega))) (fun b hb => (hs b (by simp; omega)).trans (hc.2.2.2.2 b (by simp; omega)))
section O3
variable {l : Launch} {g : Gv}
set_option maxRecDepth 100000 in
theorem c_leaves (m : Mem) (h : Nat) (v : Int32) (hh : h < 8) : JM l g 1 mX12_leaves [rf g 68, .int (nI h), .int v] m (RF none (up2 (up2 m 69 (40 + 6 * h + 3) v) 69 (40 + 6 * h + 4) (if v = 0 then hf (m 69) h 2 else -1))) := by
  refine JM_of (ls := [some (rf g 68), some (.int (nI h)), some (.int v)]) pn_X12 rfl rfl ?_
  refine j_aload0 1 dX12_leaves_0 rfl ?_
  refine j_iload1 2 dX12_leaves_1 rfl ?_
  refine j_iconst 3 (v := 3) dX12_leaves_2 rfl rfl ?_
  refine j_iload2 4 dX12_leaves_3 rfl ?_
  refine j_vi3v 7 dX12_leaves_4 rfl rfl cl_X12_164 rfl rfl (c_sets m h 3 v hh (by decide)) ?_
  refine j_aload0 8 dX12_leaves_7 rfl ?_
  refine j_iload1 9 dX12_leaves_8 rfl ?_
  refine j_iconst 10 (v := 4) dX12_leaves_9 rfl rfl ?_
  refine j_iload2 11 dX12_leaves_10 rfl ?_
  refine j_if_ne 23 14 dX12_leaves_11 rfl rfl (fun h11 => ?_) (fun h11 => ?_)
  · refine j_iconst 24 (v := -1) dX12_leaves_23 rfl rfl ?_
    refine j_vi3v 27 dX12_leaves_24 rfl rfl cl_X12_164 rfl rfl (c_sets _ h 4 _ hh (by decide)) ?_
    refine j_vret dX12_leaves_27 rfl ?_
    first | exact ⟨rfl, by rw [if_neg h11]⟩ | exact ⟨rfl, by rw [if_pos h11]; show up2 _ _ _ (up2 m 69 (40 + 6 * h + 3) v 69 (40 + 6 * h + 2)) = _; rw [up2_k (by omega)]⟩
  · refine j_aload0 15 dX12_leaves_14 rfl ?_
    refine j_iload1 16 dX12_leaves_15 rfl ?_
    refine j_iconst 17 (v := 2) dX12_leaves_16 rfl rfl ?_
    refine j_vi2f 20 dX12_leaves_17 rfl rfl cl_X12_146 rfl rfl (c_of _ h 2 hh (by decide)) ?_
    refine j_goto 24 dX12_leaves_20 rfl ?_
    refine j_vi3v 27 dX12_leaves_24 rfl rfl cl_X12_164 rfl rfl (c_sets _ h 4 _ hh (by decide)) ?_
    refine j_vret dX12_leaves_27 rfl ?_
    first | exact ⟨rfl, by rw [if_neg h11]⟩ | exact ⟨rfl, by rw [if_pos h11]; show up2 _ _ _ (up2 m 69 (40 + 6 * h + 3) v 69 (40 + 6 * h + 2)) = _; rw [up2_k (by omega)]⟩
def vHeir (km lot left : Int32) (r : Nat) : Int32 := if r = 0 then km / 10 else if r = 1 then irm km 10 else if r = 2 then lot else if r = 3 then left else if r = 4 then (if left = 0 then lot else -1) else 0
set_option maxRecDepth 100000 in
theorem c_welcome (m : Mem) (n : Nat) (km lot left : Int32) (hn : n < 8) (h9 : m 9 9 = nI n) : JM l g 1 mX10_welcome [rf g 9, .int km, .int lot, .int left] m (RS (some (.int (nI n))) (fun m' => HCl m m' (nI (n + 1)) n (vHeir km lot left))) := by
  refine JM_of (ls := [some (rf g 9), some (.int km), some (.int lot), some (.int left), none]) pn_X10 rfl rfl ?_
  refine j_aload0 1 dX10_welcome_0 rfl ?_
  refine j_getI 4 dX10_welcome_1 rfl fl_X10_53 rfl rfl ?_
  refine j_top h9 ?_
  refine j_istore4 6 dX10_welcome_4 rfl rfl rfl ?_
  refine j_iload4 8 dX10_welcome_6 rfl ?_
  refine j_if_lt 18 11 dX10_welcome_8 rfl rfl (fun h8 => absurd h8 (nI_pos (by omega))) (fun h8 => ?_)
  refine j_iload4 13 dX10_welcome_11 rfl ?_
  refine j_bipush 15 (v := 8) dX10_welcome_13 rfl rfl ?_
  refine j_cmp_lt 20 18 dX10_welcome_15 rfl rfl (fun h15 => ?_) (fun h15 => absurd (nI_lt (a := n) (b := 8) hn (by decide)) h15)
  refine j_aload0 21 dX10_welcome_20 rfl ?_
  refine j_getR 24 dX10_welcome_21 rfl fl_X10_18 rfl rfl ?_
  refine j_iload4 26 dX10_welcome_24 rfl ?_
  refine j_iload1 27 dX10_welcome_26 rfl ?_
  refine j_bipush 29 (v := 10) dX10_welcome_27 rfl rfl ?_
  refine j_idiv 30 dX10_welcome_29 rfl (by decide) ?_
  refine j_iast 31 _ rfl hn dX10_welcome_30 rfl rfl ?_
  refine j_aload0 32 dX10_welcome_31 rfl ?_
  refine j_getR 35 dX10_welcome_32 rfl fl_X10_21 rfl rfl ?_
  refine j_iload4 37 dX10_welcome_35 rfl ?_
  refine j_iload1 38 dX10_welcome_37 rfl ?_
  refine j_bipush 40 (v := 10) dX10_welcome_38 rfl rfl ?_
  refine j_irm 41 dX10_welcome_40 rfl (by decide) ?_
  refine j_iast 42 _ rfl hn dX10_welcome_41 rfl rfl ?_
  refine j_aload0 43 dX10_welcome_42 rfl ?_
  refine j_getR 46 dX10_welcome_43 rfl fl_X10_24 rfl rfl ?_
  refine j_iload4 48 dX10_welcome_46 rfl ?_
  refine j_iload2 49 dX10_welcome_48 rfl ?_
  refine j_iast 50 _ rfl hn dX10_welcome_49 rfl rfl ?_
  refine j_aload0 51 dX10_welcome_50 rfl ?_
  refine j_getR 54 dX10_welcome_51 rfl fl_X10_33 rfl rfl ?_
  refine j_iload4 56 dX10_welcome_54 rfl ?_
  refine j_iconst 57 (v := 0) dX10_welcome_56 rfl rfl ?_
  refine j_iast 58 _ rfl hn dX10_welcome_57 rfl rfl ?_
  refine j_aload0 59 dX10_welcome_58 rfl ?_
  refine j_iload4 61 dX10_welcome_59 rfl ?_
  refine j_iload3 62 dX10_welcome_61 rfl ?_
  refine j_vi2v 65 dX10_welcome_62 rfl rfl cl_X10_62 rfl rfl (c_setLeft_9 _ n left hn) ?_
  refine j_aload0 66 dX10_welcome_65 rfl ?_
  refine j_dup 67 dX10_welcome_66 rfl rfl ?_
  refine j_getI 70 dX10_welcome_67 rfl fl_X10_53 rfl rfl ?_
  refine j_iconst 71 (v := 1) dX10_welcome_70 rfl rfl ?_
  refine j_iadd 72 dX10_welcome_71 rfl ?_
  refine j_putI 75 dX10_welcome_72 rfl fp_X10_53 rfl rfl ?_
  refine j_iload4 77 dX10_welcome_75 rfl ?_
  refine j_iret dX10_welcome_77 rfl ?_
  refine ⟨rfl, ?_, fun k hk => ?_, fun r hr => ?_, fun r hr i hi => ?_, ?_⟩
  · rw [up2_s, up2_a (by decide), up2_a (by decide), up2_a (by decide), up2_a (by decide), up2_a (by decide), up2_a (by decide), h9, nI_1]
  · rw [up2_k hk, up2_a (by decide), up2_a (by decide), up2_a (by decide), up2_a (by decide), up2_a (by decide), up2_a (by decide)]
  · unfold vHeir
    rcases (show r = 0 ∨ r = 1 ∨ r = 2 ∨ r = 3 ∨ r = 4 ∨ r = 5 by omega) with rfl | rfl | rfl | rfl | rfl | rfl
    · show up2 _ 9 9 _ 12 n = km / 10
      rw [up2_a (by decide), up2_a (by decide), up2_a (by decide), up2_a (by decide), up2_a (by decide), up2_a (by decide), up2_s]
    · show up2 _ 9 9 _ 13 n = irm km 10
      rw [up2_a (by decide), up2_a (by decide), up2_a (by decide), up2_a (by decide), up2_a (by decide), up2_s]
    · show up2 _ 9 9 _ 14 n = lot
      rw [up2_a (by decide), up2_a (by decide), up2_a (by decide), up2_a (by decide), up2_s]
    · show up2 _ 9 9 _ 15 n = left
      rw [up2_a (by decide), up2_a (by decide), up2_s]
    · show up2 _ 9 9 _ 16 n = (if left = 0 then lot else -1)
      rw [up2_a (by decide), up2_s, up2_a (by decide), up2_s]
    · show up2 _ 9 9 _ 17 n = 0
      rw [up2_a (by decide), up2_a (by decide), up2_a (by decide), up2_s]
  · rw [up2_a (by omega), up2_k hi, up2_k hi, up2_k hi, up2_k hi, up2_k hi, up2_k hi]
  · exact ((((((Sm.rf.up (by decide)).up (by decide)).up (by decide)).up (by decide)).up (by decide)).up (by decide)).up (by decide)
def cHeir (km lot left : Int32) : Prop := (0 ≤ km ∧ km ≤ 69) ∧ (0 ≤ lot ∧ lot ≤ 15) ∧ (0 ≤ left ∧ left ≤ 99)
set_option maxRecDepth 100000 in
theorem e_heir (m : Mem) (a b c : Int32) (hc : ¬ cHeir a b c) : JM l g 2 mX11_heir [rf g 0, .int a, .int b, .int c] m (RF (some (.int (-1000000001))) (errC 1 m)) := by
  refine JM_of (ls := [some (rf g 0), some (.int a), some (.int b), some (.int c)]) pn_X11 rfl rfl ?_
  refine j_iload1 1 dX11_heir_0 rfl ?_
  refine j_st1f 4 dX11_heir_1 rfl rfl cl_X11_113 rfl (c_isKM m a) ?_
  refine j_if_eq_bz 24 7 dX11_heir_4 rfl rfl (fun h4 => ?_) (fun h4 => ?_)
  · refine j_aload0 25 dX11_heir_24 rfl ?_
    refine j_ldc 27 dX11_heir_25 rfl kc_X11_81 ?_
    refine j_vi1f 30 dX11_heir_27 rfl rfl cl_X11_82 rfl rfl (c_err1 m) ?_
    refine j_iret dX11_heir_30 rfl ?_
    exact ⟨rfl, rfl⟩
  · refine j_iload2 8 dX11_heir_7 rfl ?_
    refine j_st1f 11 dX11_heir_8 rfl rfl cl_X11_77 rfl (c_isSill m b) ?_
    refine j_if_eq_bz 24 14 dX11_heir_11 rfl rfl (fun h11 => ?_) (fun h11 => ?_)
    · refine j_aload0 25 dX11_heir_24 rfl ?_
      refine j_ldc 27 dX11_heir_25 rfl kc_X11_81 ?_
      refine j_vi1f 30 dX11_heir_27 rfl rfl cl_X11_82 rfl rfl (c_err1 m) ?_
      refine j_iret dX11_heir_30 rfl ?_
      exact ⟨rfl, rfl⟩
    · refine j_iload3 15 dX11_heir_14 rfl ?_
      refine j_iconst 16 (v := 0) dX11_heir_15 rfl rfl ?_
      refine j_bipush 18 (v := 99) dX11_heir_16 rfl rfl ?_
      refine j_st3f 21 dX11_heir_18 rfl rfl cl_X11_86 rfl (c_within m c 0 99) ?_
      refine j_if_ne_bz 31 24 dX11_heir_21 rfl rfl (fun h21 => ?_) (fun h21 => ?_)
      · exact absurd (show cHeir a b c from ⟨h4, h11, h21⟩) hc
      · refine j_aload0 25 dX11_heir_24 rfl ?_
        refine j_ldc 27 dX11_heir_25 rfl kc_X11_81 ?_
        refine j_vi1f 30 dX11_heir_27 rfl rfl cl_X11_82 rfl rfl (c_err1 m) ?_
        refine j_iret dX11_heir_30 rfl ?_
        exact ⟨rfl, rfl⟩
set_option maxRecDepth 100000 in
theorem f_heir (m : Mem) (a b c : Int32) (hc : ¬ cHeir a b c) : JM l g 2 mX12_heir [rf g 68, .int a, .int b, .int c] m (RF (some (.int (-1000000001))) (errM 1 m)) := by
  refine JM_of (ls := [some (rf g 68), some (.int a), some (.int b), some (.int c), none]) pn_X12 rfl rfl ?_
  refine j_iload1 1 dX12_heir_0 rfl ?_
  refine j_i2l 2 dX12_heir_1 rfl ?_
  refine j_lconst 3 (v := 0) dX12_heir_2 rfl rfl ?_
  refine j_ldc2 6 dX12_heir_3 rfl kl_X12_191 ?_
  refine j_st3f 9 dX12_heir_6 rfl rfl cl_X12_47 rfl (c_in m a 0 69) ?_
  refine j_if_eq_bz 31 12 dX12_heir_9 rfl rfl (fun h9 => ?_) (fun h9 => ?_)
  · refine j_aload0 32 dX12_heir_31 rfl ?_
    refine j_iconst 33 (v := 1) dX12_heir_32 rfl rfl ?_
    refine j_vi1f 36 dX12_heir_33 rfl rfl cl_X12_126 rfl rfl (c_finds1 m) ?_
    refine j_iret dX12_heir_36 rfl ?_
    exact ⟨rfl, rfl⟩
  · refine j_iload2 13 dX12_heir_12 rfl ?_
    refine j_st1f 16 dX12_heir_13 rfl rfl cl_X12_174 rfl (c_misSill m b) ?_
    refine j_if_eq_bz 31 19 dX12_heir_16 rfl rfl (fun h16 => ?_) (fun h16 => ?_)
    · refine j_aload0 32 dX12_heir_31 rfl ?_
      refine j_iconst 33 (v := 1) dX12_heir_32 rfl rfl ?_
      refine j_vi1f 36 dX12_heir_33 rfl rfl cl_X12_126 rfl rfl (c_finds1 m) ?_
      refine j_iret dX12_heir_36 rfl ?_
      exact ⟨rfl, rfl⟩
    · refine j_iload3 20 dX12_heir_19 rfl ?_
      refine j_i2l 21 dX12_heir_20 rfl ?_
      refine j_lconst 22 (v := 0) dX12_heir_21 rfl rfl ?_
      refine j_ldc2 25 dX12_heir_22 rfl kl_X12_193 ?_
      refine j_st3f 28 dX12_heir_25 rfl rfl cl_X12_47 rfl (c_in m c 0 99) ?_
      refine j_if_ne_bz 37 31 dX12_heir_28 rfl rfl (fun h28 => ?_) (fun h28 => ?_)
      · exact absurd (show cHeir a b c from ⟨h9, h16, h28⟩) hc
      · refine j_aload0 32 dX12_heir_31 rfl ?_
        refine j_iconst 33 (v := 1) dX12_heir_32 rfl rfl ?_
        refine j_vi1f 36 dX12_heir_33 rfl rfl cl_X12_126 rfl rfl (c_finds1 m) ?_
        refine j_iret dX12_heir_36 rfl ?_
        exact ⟨rfl, rfl⟩
set_option maxRecDepth 100000 in
theorem e_heir4 (m : Mem) (a b c : Int32) (hc : cHeir a b c) (h8 : ¬ m 9 9 < 8) : JM l g 2 mX11_heir [rf g 0, .int a, .int b, .int c] m (RF (some (.int (-1000000004))) (errC 4 m)) := by
  refine JM_of (ls := [some (rf g 0), some (.int a), some (.int b), some (.int c)]) pn_X11 rfl rfl ?_
  refine j_iload1 1 dX11_heir_0 rfl ?_
  refine j_st1f 4 dX11_heir_1 rfl rfl cl_X11_113 rfl (c_isKM m a) ?_
  refine j_if_eq_bz 24 7 dX11_heir_4 rfl rfl (fun h4 => absurd hc.1 h4) (fun h4 => ?_)
  refine j_iload2 8 dX11_heir_7 rfl ?_
  refine j_st1f 11 dX11_heir_8 rfl rfl cl_X11_77 rfl (c_isSill m b) ?_
  refine j_if_eq_bz 24 14 dX11_heir_11 rfl rfl (fun h11 => absurd hc.2.1 h11) (fun h11 => ?_)
  refine j_iload3 15 dX11_heir_14 rfl ?_
  refine j_iconst 16 (v := 0) dX11_heir_15 rfl rfl ?_
  refine j_bipush 18 (v := 99) dX11_heir_16 rfl rfl ?_
  refine j_st3f 21 dX11_heir_18 rfl rfl cl_X11_86 rfl (c_within m c 0 99) ?_
  refine j_if_ne_bz 31 24 dX11_heir_21 rfl rfl (fun h21 => ?_) (fun h21 => absurd hc.2.2 h21)
  refine j_aload0 32 dX11_heir_31 rfl ?_
  refine j_getR 35 dX11_heir_32 rfl fl_X11_35 rfl rfl ?_
  refine j_getI 38 dX11_heir_35 rfl fl_X11_116 rfl rfl ?_
  refine j_bipush 40 (v := 8) dX11_heir_38 rfl rfl ?_
  refine j_cmp_lt 50 43 dX11_heir_40 rfl rfl (fun h40 => absurd h40 h8) (fun h40 => ?_)
  refine j_aload0 44 dX11_heir_43 rfl ?_
  refine j_ldc 46 dX11_heir_44 rfl kc_X11_119 ?_
  refine j_vi1f 49 dX11_heir_46 rfl rfl cl_X11_82 rfl rfl (c_err4 m) ?_
  refine j_iret dX11_heir_49 rfl ?_
  exact ⟨rfl, rfl⟩
set_option maxRecDepth 100000 in
theorem f_heir4 (m : Mem) (a b c : Int32) (hc : cHeir a b c) (h8 : m 69 0 = 8) : JM l g 2 mX12_heir [rf g 68, .int a, .int b, .int c] m (RF (some (.int (-1000000004))) (errM 4 m)) := by
  refine JM_of (ls := [some (rf g 68), some (.int a), some (.int b), some (.int c), none]) pn_X12 rfl rfl ?_
  refine j_iload1 1 dX12_heir_0 rfl ?_
  refine j_i2l 2 dX12_heir_1 rfl ?_
  refine j_lconst 3 (v := 0) dX12_heir_2 rfl rfl ?_
  refine j_ldc2 6 dX12_heir_3 rfl kl_X12_191 ?_
  refine j_st3f 9 dX12_heir_6 rfl rfl cl_X12_47 rfl (c_in m a 0 69) ?_
  refine j_if_eq_bz 31 12 dX12_heir_9 rfl rfl (fun h9 => absurd hc.1 h9) (fun h9 => ?_)
  refine j_iload2 13 dX12_heir_12 rfl ?_
  refine j_st1f 16 dX12_heir_13 rfl rfl cl_X12_174 rfl (c_misSill m b) ?_
  refine j_if_eq_bz 31 19 dX12_heir_16 rfl rfl (fun h16 => absurd hc.2.1 h16) (fun h16 => ?_)
  refine j_iload3 20 dX12_heir_19 rfl ?_
  refine j_i2l 21 dX12_heir_20 rfl ?_
  refine j_lconst 22 (v := 0) dX12_heir_21 rfl rfl ?_
  refine j_ldc2 25 dX12_heir_22 rfl kl_X12_193 ?_
  refine j_st3f 28 dX12_heir_25 rfl rfl cl_X12_47 rfl (c_in m c 0 99) ?_
  refine j_if_ne_bz 37 31 dX12_heir_28 rfl rfl (fun h28 => ?_) (fun h28 => absurd hc.2.2 h28)
  refine j_aload0 38 dX12_heir_37 rfl ?_
  refine j_getR 41 dX12_heir_38 rfl fl_X12_7 rfl rfl ?_
  refine j_iconst 42 (v := 0) dX12_heir_41 rfl rfl ?_
  refine j_iald 43 0 rfl (by first | assumption | decide | omega) dX12_heir_42 rfl rfl ?_
  refine j_bipush 45 (v := 8) dX12_heir_43 rfl rfl ?_
  refine j_cmp_ne 54 48 dX12_heir_45 rfl rfl (fun h45 => absurd h45 (fun q => q h8)) (fun h45 => ?_)
  refine j_aload0 49 dX12_heir_48 rfl ?_
  refine j_iconst 50 (v := 4) dX12_heir_49 rfl rfl ?_
  refine j_vi1f 53 dX12_heir_50 rfl rfl cl_X12_126 rfl rfl (c_finds4 m) ?_
  refine j_iret dX12_heir_53 rfl ?_
  exact ⟨rfl, rfl⟩
set_option maxRecDepth 100000 in
theorem o_heir (m : Mem) (n : Nat) (a b c : Int32) (hc : cHeir a b c) (hn : n < 8) (h9 : m 9 9 = nI n) : JM l g 2 mX11_heir [rf g 0, .int a, .int b, .int c] m (RS (some (.int (nI n))) (fun m' => HCl m m' (nI (n + 1)) n (vHeir a b c))) := by
  refine JM_of (ls := [some (rf g 0), some (.int a), some (.int b), some (.int c)]) pn_X11 rfl rfl ?_
  refine j_iload1 1 dX11_heir_0 rfl ?_
  refine j_st1f 4 dX11_heir_1 rfl rfl cl_X11_113 rfl (c_isKM m a) ?_
  refine j_if_eq_bz 24 7 dX11_heir_4 rfl rfl (fun h4 => absurd hc.1 h4) (fun h4 => ?_)
  refine j_iload2 8 dX11_heir_7 rfl ?_
  refine j_st1f 11 dX11_heir_8 rfl rfl cl_X11_77 rfl (c_isSill m b) ?_
  refine j_if_eq_bz 24 14 dX11_heir_11 rfl rfl (fun h11 => absurd hc.2.1 h11) (fun h11 => ?_)
  refine j_iload3 15 dX11_heir_14 rfl ?_
  refine j_iconst 16 (v := 0) dX11_heir_15 rfl rfl ?_
  refine j_bipush 18 (v := 99) dX11_heir_16 rfl rfl ?_
  refine j_st3f 21 dX11_heir_18 rfl rfl cl_X11_86 rfl (c_within m c 0 99) ?_
  refine j_if_ne_bz 31 24 dX11_heir_21 rfl rfl (fun h21 => ?_) (fun h21 => absurd hc.2.2 h21)
  refine j_aload0 32 dX11_heir_31 rfl ?_
  refine j_getR 35 dX11_heir_32 rfl fl_X11_35 rfl rfl ?_
  refine j_getI 38 dX11_heir_35 rfl fl_X11_116 rfl rfl ?_
  refine j_bipush 40 (v := 8) dX11_heir_38 rfl rfl ?_
  refine j_cmp_lt 50 43 dX11_heir_40 rfl rfl (fun h40 => ?_) (fun h40 => absurd (by rw [h9]; exact nI_lt (a := n) (b := 8) hn (by decide)) h40)
  refine j_aload0 51 dX11_heir_50 rfl ?_
  refine j_getR 54 dX11_heir_51 rfl fl_X11_35 rfl rfl ?_
  refine j_iload1 55 dX11_heir_54 rfl ?_
  refine j_iload2 56 dX11_heir_55 rfl ?_
  refine j_iload3 57 dX11_heir_56 rfl ?_
  refine j_vi3s 60 dX11_heir_57 rfl rfl cl_X11_120 rfl rfl (c_welcome m n a b c hn h9) (fun m57 q57 => ?_)
  refine j_iret dX11_heir_60 rfl ?_
  exact ⟨rfl, q57⟩
set_option maxRecDepth 100000 in
theorem p_heir (m : Mem) (n : Nat) (a b c : Int32) (hc : cHeir a b c) (hn : n < 8) (h0 : m 69 0 = nI n) : JM l g 2 mX12_heir [rf g 68, .int a, .int b, .int c] m (RS (some (.int (nI n))) (fun m' => m' 69 = blkF (m 69) (nI (n + 1)) n (vHeir a b c) ∧ Sm [69] m m')) := by
  refine JM_of (ls := [some (rf g 68), some (.int a), some (.int b), some (.int c), none]) pn_X12 rfl rfl ?_
  refine j_iload1 1 dX12_heir_0 rfl ?_
  refine j_i2l 2 dX12_heir_1 rfl ?_
  refine j_lconst 3 (v := 0) dX12_heir_2 rfl rfl ?_
  refine j_ldc2 6 dX12_heir_3 rfl kl_X12_191 ?_
  refine j_st3f 9 dX12_heir_6 rfl rfl cl_X12_47 rfl (c_in m a 0 69) ?_
  refine j_if_eq_bz 31 12 dX12_heir_9 rfl rfl (fun h9 => absurd hc.1 h9) (fun h9 => ?_)
  refine j_iload2 13 dX12_heir_12 rfl ?_
  refine j_st1f 16 dX12_heir_13 rfl rfl cl_X12_174 rfl (c_misSill m b) ?_
  refine j_if_eq_bz 31 19 dX12_heir_16 rfl rfl (fun h16 => absurd hc.2.1 h16) (fun h16 => ?_)
  refine j_iload3 20 dX12_heir_19 rfl ?_
  refine j_i2l 21 dX12_heir_20 rfl ?_
  refine j_lconst 22 (v := 0) dX12_heir_21 rfl rfl ?_
  refine j_ldc2 25 dX12_heir_22 rfl kl_X12_193 ?_
  refine j_st3f 28 dX12_heir_25 rfl rfl cl_X12_47 rfl (c_in m c 0 99) ?_
  refine j_if_ne_bz 37 31 dX12_heir_28 rfl rfl (fun h28 => ?_) (fun h28 => absurd hc.2.2 h28)
  refine j_aload0 38 dX12_heir_37 rfl ?_
  refine j_getR 41 dX12_heir_38 rfl fl_X12_7 rfl rfl ?_
  refine j_iconst 42 (v := 0) dX12_heir_41 rfl rfl ?_
  refine j_iald 43 0 rfl (by first | assumption | decide | omega) dX12_heir_42 rfl rfl ?_
  refine j_bipush 45 (v := 8) dX12_heir_43 rfl rfl ?_
  refine j_cmp_ne 54 48 dX12_heir_45 rfl rfl (fun h45 => ?_) (fun h45 => absurd h45 (by rw [h0]; exact fun q => by have := (nI_eq (a := n) (b := 8) (by omega) (by decide)).mp q; omega))
  refine j_aload0 55 dX12_heir_54 rfl ?_
  refine j_getR 58 dX12_heir_55 rfl fl_X12_7 rfl rfl ?_
  refine j_iconst 59 (v := 0) dX12_heir_58 rfl rfl ?_
  refine j_iald 60 0 rfl (by first | assumption | decide | omega) dX12_heir_59 rfl rfl ?_
  refine j_top h0 ?_
  refine j_istore4 62 dX12_heir_60 rfl rfl rfl ?_
  refine j_aload0 63 dX12_heir_62 rfl ?_
  refine j_iload4 65 dX12_heir_63 rfl ?_
  refine j_iconst 66 (v := 0) dX12_heir_65 rfl rfl ?_
  refine j_iload1 67 dX12_heir_66 rfl ?_
  refine j_bipush 69 (v := 10) dX12_heir_67 rfl rfl ?_
  refine j_idiv 70 dX12_heir_69 rfl (by decide) ?_
  refine j_vi3v 73 dX12_heir_70 rfl rfl cl_X12_164 rfl rfl (c_sets m n 0 _ hn (by decide)) ?_
  refine j_aload0 74 dX12_heir_73 rfl ?_
  refine j_iload4 76 dX12_heir_74 rfl ?_
  refine j_iconst 77 (v := 1) dX12_heir_76 rfl rfl ?_
  refine j_iload1 78 dX12_heir_77 rfl ?_
  refine j_bipush 80 (v := 10) dX12_heir_78 rfl rfl ?_
  refine j_irm 81 dX12_heir_80 rfl (by decide) ?_
  refine j_vi3v 84 dX12_heir_81 rfl rfl cl_X12_164 rfl rfl (c_sets _ n 1 _ hn (by decide)) ?_
  refine j_aload0 85 dX12_heir_84 rfl ?_
  refine j_iload4 87 dX12_heir_85 rfl ?_
  refine j_iconst 88 (v := 2) dX12_heir_87 rfl rfl ?_
  refine j_iload2 89 dX12_heir_88 rfl ?_
  refine j_vi3v 92 dX12_heir_89 rfl rfl cl_X12_164 rfl rfl (c_sets _ n 2 _ hn (by decide)) ?_
  refine j_aload0 93 dX12_heir_92 rfl ?_
  refine j_iload4 95 dX12_heir_93 rfl ?_
  refine j_iload3 96 dX12_heir_95 rfl ?_
  refine j_vi2v 99 dX12_heir_96 rfl rfl cl_X12_195 rfl rfl (c_leaves _ n _ hn) ?_
  refine j_aload0 100 dX12_heir_99 rfl ?_
  refine j_iload4 102 dX12_heir_100 rfl ?_
  refine j_iconst 103 (v := 5) dX12_heir_102 rfl rfl ?_
  refine j_iconst 104 (v := 0) dX12_heir_103 rfl rfl ?_
  refine j_vi3v 107 dX12_heir_104 rfl rfl cl_X12_164 rfl rfl (c_sets _ n 5 _ hn (by decide)) ?_
  refine j_aload0 108 dX12_heir_107 rfl ?_
  refine j_getR 111 dX12_heir_108 rfl fl_X12_7 rfl rfl ?_
  refine j_iconst 112 (v := 0) dX12_heir_111 rfl rfl ?_
  refine j_dup2 113 dX12_heir_112 rfl rfl rfl ?_
  refine j_iald 114 0 rfl (by decide) dX12_heir_113 rfl rfl ?_
  refine j_iconst 115 (v := 1) dX12_heir_114 rfl rfl ?_
  refine j_iadd 116 dX12_heir_115 rfl ?_
  refine j_iast 117 0 rfl (by decide) dX12_heir_116 rfl rfl ?_
  refine j_iload4 119 dX12_heir_117 rfl ?_
  refine j_iret dX12_heir_119 rfl ?_
  refine ⟨rfl, blk_of ?_ (fun r hr => ?_) (fun k k0 hk => ?_), ?_⟩
  · rw [up2_s, up2_k (by omega), up2_k (by omega), up2_k (by omega), up2_k (by omega), up2_k (by omega), up2_k (by omega), h0, nI_1]
  · show up2 _ 69 0 _ 69 (40 + 6 * n + r) = _
    rw [up2_k (by omega)]
    unfold vHeir
    rcases (show r = 0 ∨ r = 1 ∨ r = 2 ∨ r = 3 ∨ r = 4 ∨ r = 5 by omega) with rfl | rfl | rfl | rfl | rfl | rfl
    · rw [up2_k (by omega), up2_k (by omega), up2_k (by omega), up2_k (by omega), up2_k (by omega), up2_s]; rfl
    · rw [up2_k (by omega), up2_k (by omega), up2_k (by omega), up2_k (by omega), up2_s]; rfl
    · rw [up2_k (by omega), up2_k (by omega), up2_k (by omega), up2_s]; rfl
    · rw [up2_k (by omega), up2_k (by omega), up2_s]; rfl
    · rw [up2_k (by omega), up2_s]
      show (if c = 0 then up2 _ 69 (40 + 6 * n + 2) b 69 (40 + 6 * n + 2) else -1) = (if c = 0 then b else -1)
      rw [up2_s]
    · rw [up2_s]; rfl
  · rw [up2_k k0, up2_k (by omega), up2_k (by omega), up2_k (by omega), up2_k (by omega), up2_k (by omega), up2_k (by omega)]
  · exact ((((((Sm.rf.up (by decide)).up (by decide)).up (by decide)).up (by decide)).up (by decide)).up (by decide)).up (by decide)
theorem vHeir_ok {a b c : Int32} (h : cHeir a b c) : HWr (vHeir a b c) := by
  obtain ⟨h1, h2, h3⟩ := h
  obtain ⟨i, hi, rfl⟩ := (rngN 69 (by decide)).mp h1
  obtain ⟨j, hj, rfl⟩ := (rngN 15 (by decide)).mp h2
  obtain ⟨k, hk, rfl⟩ := (rngN 99 (by decide)).mp h3
  refine ⟨⟨i / 10, by omega, pk_div (a := i) (d := 10) (by omega) (by decide) (by decide)⟩, ⟨i % 10, by omega, irm_nI (b := 10) (by omega) (by decide) (by decide)⟩, ⟨j, by omega, rfl⟩, ⟨k, by omega, rfl⟩, fun q => ?_, fun q => ?_, ⟨0, by decide, rfl⟩⟩
  · exact ⟨j, by omega, if_pos q⟩
  · exact if_neg q
theorem op_heir {m : Mem} (I : INV m) (a b c : Int32) : OPr l g mX11_heir mX12_heir [.int a, .int b, .int c] m := by
  obtain ⟨⟨wf, hd, hT, hP⟩, -⟩ := id I
  have wn := wf.n
  have h9 : m 9 9 = nI (hn (m 69)) := hT.1.trans wn.2
  by_cases hc : cHeir a b c
  · by_cases h8 : hn (m 69) < 8
    · refine ⟨2, 2, _, _, by decide, by decide, o_heir m _ a b c hc h8 h9, fun m' e => ?_⟩
      have e69 : m' 69 = m 69 := e.2.2.2.2 69 (by decide)
      exact (p_heir m' _ a b c hc h8 (by rw [e69]; exact wn.2)).mono (RS_w (fun m2 q => INV_blk I e q.1 q.2 ⟨hn (m 69) + 1, by omega, rfl⟩ h8 (vHeir_ok hc)))
    · have e8 : hn (m 69) = 8 := by omega
      exact OPr_err I (by decide) (by decide) (by decide) (e_heir4 m a b c hc (by rw [h9, e8]; decide)) (f_heir4 _ a b c hc (by rw [errC_o (by decide), wn.2, e8]; rfl))
  · exact OPr_err I (by decide) (by decide) (by decide) (e_heir m a b c hc) (f_heir _ a b c hc)
-- become
def vBec (d : Nat → Int32) (h : Nat) (km : Int32) (r : Nat) : Int32 := if r = 0 then km / 10 else if r = 1 then irm km 10 else hf d h r
set_option maxRecDepth 100000 in
theorem e_become (m : Mem) (h a : Int32) (hc : ¬ ((0 ≤ h ∧ h < m 9 9 ∧ h < 8) ∧ 0 ≤ a ∧ a ≤ 69)) : JM l g 2 mX11_become [rf g 0, .int h, .int a] m (RF (some (.int (-1000000001))) (errC 1 m)) := by
  refine JM_of (ls := [some (rf g 0), some (.int h), some (.int a), none]) pn_X11 rfl rfl ?_
  refine j_aload0 1 dX11_become_0 rfl ?_
  refine j_iload1 2 dX11_become_1 rfl ?_
  refine j_vi1f 5 dX11_become_2 rfl rfl cl_X11_124 rfl rfl (c_isHeir m h) ?_
  refine j_if_eq_bz 15 8 dX11_become_5 rfl rfl (fun h5 => ?_) (fun h5 => ?_)
  · refine j_aload0 16 dX11_become_15 rfl ?_
    refine j_ldc 18 dX11_become_16 rfl kc_X11_81 ?_
    refine j_vi1f 21 dX11_become_18 rfl rfl cl_X11_82 rfl rfl (c_err1 m) ?_
    refine j_iret dX11_become_21 rfl ?_
    exact ⟨rfl, rfl⟩
  · refine j_iload2 9 dX11_become_8 rfl ?_
    refine j_st1f 12 dX11_become_9 rfl rfl cl_X11_113 rfl (c_isKM m a) ?_
    refine j_if_ne_bz 22 15 dX11_become_12 rfl rfl (fun h12 => ?_) (fun h12 => ?_)
    · exact absurd ⟨h5, h12⟩ hc
    · refine j_aload0 16 dX11_become_15 rfl ?_
      refine j_ldc 18 dX11_become_16 rfl kc_X11_81 ?_
      refine j_vi1f 21 dX11_become_18 rfl rfl cl_X11_82 rfl rfl (c_err1 m) ?_
      refine j_iret dX11_become_21 rfl ?_
      exact ⟨rfl, rfl⟩
set_option maxRecDepth 100000 in
theorem f_become (m : Mem) (h a : Int32) (hc : ¬ ((0 ≤ h ∧ h ≤ m 69 0 - 1) ∧ 0 ≤ a ∧ a ≤ 69)) : JM l g 2 mX12_become [rf g 68, .int h, .int a] m (RF (some (.int (-1000000001))) (errM 1 m)) := by
  refine JM_of (ls := [some (rf g 68), some (.int h), some (.int a)]) pn_X12 rfl rfl ?_
  refine j_aload0 1 dX12_become_0 rfl ?_
  refine j_iload1 2 dX12_become_1 rfl ?_
  refine j_vi1f 5 dX12_become_2 rfl rfl cl_X12_199 rfl rfl (c_misHeir m h) ?_
  refine j_if_eq_bz 20 8 dX12_become_5 rfl rfl (fun h5 => ?_) (fun h5 => ?_)
  · refine j_aload0 21 dX12_become_20 rfl ?_
    refine j_iconst 22 (v := 1) dX12_become_21 rfl rfl ?_
    refine j_vi1f 25 dX12_become_22 rfl rfl cl_X12_126 rfl rfl (c_finds1 m) ?_
    refine j_iret dX12_become_25 rfl ?_
    exact ⟨rfl, rfl⟩
  · refine j_iload2 9 dX12_become_8 rfl ?_
    refine j_i2l 10 dX12_become_9 rfl ?_
    refine j_lconst 11 (v := 0) dX12_become_10 rfl rfl ?_
    refine j_ldc2 14 dX12_become_11 rfl kl_X12_191 ?_
    refine j_st3f 17 dX12_become_14 rfl rfl cl_X12_47 rfl (c_in m a 0 69) ?_
    refine j_if_ne_bz 26 20 dX12_become_17 rfl rfl (fun h17 => ?_) (fun h17 => ?_)
    · exact absurd ⟨h5, h17⟩ hc
    · refine j_aload0 21 dX12_become_20 rfl ?_
      refine j_iconst 22 (v := 1) dX12_become_21 rfl rfl ?_
      refine j_vi1f 25 dX12_become_22 rfl rfl cl_X12_126 rfl rfl (c_finds1 m) ?_
      refine j_iret dX12_become_25 rfl ?_
      exact ⟨rfl, rfl⟩
set_option maxRecDepth 100000 in
theorem o_become (m : Mem) (h : Nat) (a : Int32) (hh : h < 8) (h1 : 0 ≤ nI h ∧ nI h < m 9 9 ∧ nI h < 8) (h2 : 0 ≤ a ∧ a ≤ 69) : JM l g 2 mX11_become [rf g 0, .int (nI h), .int a] m (RF (some (.int (m 12 h))) (up2 (up2 m 12 h (a / 10)) 13 h (irm a 10))) := by
  refine JM_of (ls := [some (rf g 0), some (.int (nI h)), some (.int a), none]) pn_X11 rfl rfl ?_
  refine j_aload0 1 dX11_become_0 rfl ?_
  refine j_iload1 2 dX11_become_1 rfl ?_
  refine j_vi1f 5 dX11_become_2 rfl rfl cl_X11_124 rfl rfl (c_isHeir m _) ?_
  refine j_if_eq_bz 15 8 dX11_become_5 rfl rfl (fun h5 => absurd h1 h5) (fun h5 => ?_)
  refine j_iload2 9 dX11_become_8 rfl ?_
  refine j_st1f 12 dX11_become_9 rfl rfl cl_X11_113 rfl (c_isKM m a) ?_
  refine j_if_ne_bz 22 15 dX11_become_12 rfl rfl (fun h12 => ?_) (fun h12 => absurd h2 h12)
  refine j_aload0 23 dX11_become_22 rfl ?_
  refine j_getR 26 dX11_become_23 rfl fl_X11_35 rfl rfl ?_
  refine j_getR 29 dX11_become_26 rfl fl_X11_127 rfl rfl ?_
  refine j_iload1 30 dX11_become_29 rfl ?_
  refine j_iald 31 _ rfl hh dX11_become_30 rfl rfl ?_
  refine j_istore3 32 dX11_become_31 rfl rfl rfl ?_
  refine j_aload0 33 dX11_become_32 rfl ?_
  refine j_getR 36 dX11_become_33 rfl fl_X11_35 rfl rfl ?_
  refine j_getR 39 dX11_become_36 rfl fl_X11_127 rfl rfl ?_
  refine j_iload1 40 dX11_become_39 rfl ?_
  refine j_iload2 41 dX11_become_40 rfl ?_
  refine j_bipush 43 (v := 10) dX11_become_41 rfl rfl ?_
  refine j_idiv 44 dX11_become_43 rfl (by decide) ?_
  refine j_iast 45 _ rfl hh dX11_become_44 rfl rfl ?_
  refine j_aload0 46 dX11_become_45 rfl ?_
  refine j_getR 49 dX11_become_46 rfl fl_X11_35 rfl rfl ?_
  refine j_getR 52 dX11_become_49 rfl fl_X11_130 rfl rfl ?_
  refine j_iload1 53 dX11_become_52 rfl ?_
  refine j_iload2 54 dX11_become_53 rfl ?_
  refine j_bipush 56 (v := 10) dX11_become_54 rfl rfl ?_
  refine j_irm 57 dX11_become_56 rfl (by decide) ?_
  refine j_iast 58 _ rfl hh dX11_become_57 rfl rfl ?_
  refine j_iload3 59 dX11_become_58 rfl ?_
  refine j_iret dX11_become_59 rfl ?_
  exact ⟨rfl, rfl⟩
set_option maxRecDepth 100000 in
theorem p_become (m : Mem) (h : Nat) (a : Int32) (hh : h < 8) (h1 : 0 ≤ nI h ∧ nI h ≤ m 69 0 - 1) (h2 : 0 ≤ a ∧ a ≤ 69) : JM l g 2 mX12_become [rf g 68, .int (nI h), .int a] m (RF (some (.int (hf (m 69) h 0))) (up2 (up2 m 69 (40 + 6 * h + 1) (irm a 10)) 69 (40 + 6 * h) (a / 10))) := by
  refine JM_of (ls := [some (rf g 68), some (.int (nI h)), some (.int a)]) pn_X12 rfl rfl ?_
  refine j_aload0 1 dX12_become_0 rfl ?_
  refine j_iload1 2 dX12_become_1 rfl ?_
  refine j_vi1f 5 dX12_become_2 rfl rfl cl_X12_199 rfl rfl (c_misHeir m _) ?_
  refine j_if_eq_bz 20 8 dX12_become_5 rfl rfl (fun h5 => absurd h1 h5) (fun h5 => ?_)
  refine j_iload2 9 dX12_become_8 rfl ?_
  refine j_i2l 10 dX12_become_9 rfl ?_
  refine j_lconst 11 (v := 0) dX12_become_10 rfl rfl ?_
  refine j_ldc2 14 dX12_become_11 rfl kl_X12_191 ?_
  refine j_st3f 17 dX12_become_14 rfl rfl cl_X12_47 rfl (c_in m a 0 69) ?_
  refine j_if_ne_bz 26 20 dX12_become_17 rfl rfl (fun h17 => ?_) (fun h17 => absurd h2 h17)
  refine j_aload0 27 dX12_become_26 rfl ?_
  refine j_iload1 28 dX12_become_27 rfl ?_
  refine j_iconst 29 (v := 1) dX12_become_28 rfl rfl ?_
  refine j_iload2 30 dX12_become_29 rfl ?_
  refine j_bipush 32 (v := 10) dX12_become_30 rfl rfl ?_
  refine j_irm 33 dX12_become_32 rfl (by decide) ?_
  refine j_vi3v 36 dX12_become_33 rfl rfl cl_X12_164 rfl rfl (c_sets m h 1 _ hh (by decide)) ?_
  refine j_aload0 37 dX12_become_36 rfl ?_
  refine j_bipush 39 (v := nI 40) dX12_become_37 rfl rfl ?_
  refine j_bipush 41 (v := nI 6) dX12_become_39 rfl rfl ?_
  refine j_iload1 42 dX12_become_41 rfl ?_
  refine j_imulN 43 dX12_become_42 rfl ?_
  refine j_iaddN 44 dX12_become_43 rfl ?_
  refine j_iload2 45 dX12_become_44 rfl ?_
  refine j_bipush 47 (v := 10) dX12_become_45 rfl rfl ?_
  refine j_idiv 48 dX12_become_47 rfl (by decide) ?_
  refine j_vi2f 51 dX12_become_48 rfl rfl cl_X12_179 rfl rfl (c_becomes _ (40 + 6 * h) _ (by omega)) ?_
  refine j_iret dX12_become_51 rfl ?_
  exact ⟨by rw [up2_k (by omega)]; rfl, rfl⟩
theorem op_become {m : Mem} (I : INV m) (h a : Int32) : OPr l g mX11_become mX12_become [.int h, .int a] m := by
  obtain ⟨⟨wf, hd, hT, hP⟩, -⟩ := id I
  have wn := wf.n
  by_cases hc : (0 ≤ h ∧ h < m 69 0 ∧ h < 8) ∧ 0 ≤ a ∧ a ≤ 69
  · obtain ⟨h1, h2⟩ := hc
    obtain ⟨j, hj, rfl⟩ := (isH_c wf).mp h1
    have hh : j < 8 := by omega
    refine ⟨2, 2, _, _, by decide, by decide, o_become m j a hh (by rw [hT.1]; exact h1) h2, fun m' e => ?_⟩
    subst e
    have e69 : up2 (up2 m 12 j (a / 10)) 13 j (irm a 10) 69 = m 69 := (up2_r (by decide)).trans (up2_r (by decide))
    have hq := p_become (l := l) (g := g) (up2 (up2 m 12 j (a / 10)) 13 j (irm a 10)) j a hh (by rw [e69]; exact (isH_m wf).mpr ⟨j, hj, rfl⟩) h2
    rw [e69, show hf (m 69) j 0 = m 12 j from (hT.2.2.2.2.2.2.2 j hh 0 (by decide)).symm] at hq
    refine hq.mono (RS_w (fun m2 q => ?_))
    subst q
    refine INV_blk I (c0 := m 69 0) (h := j) (v := vBec (m 69) j a) ⟨?_, fun k hk => ?_, fun r hr => ?_, fun r hr i hi => ?_, ?_⟩ (blk_of ?_ (fun r hr => ?_) (fun k k0 hk => ?_)) ((Sm.rf.up (by decide)).up (by decide)) wf.1 hh ?_
    · rw [up2_a (by decide), up2_a (by decide)]; exact hT.1
    · rw [up2_a (by decide), up2_a (by decide)]
    · unfold vBec
      have := hT.2.2.2.2.2.2.2 j hh r hr
      rcases (show r = 0 ∨ r = 1 ∨ 2 ≤ r by omega) with rfl | rfl | hr2
      · show up2 _ 13 j _ 12 j = a / 10
        rw [up2_a (by decide), up2_s]
      · show up2 _ 13 j _ 13 j = irm a 10
        rw [up2_s]
      · rw [if_neg (by omega), if_neg (by omega), up2_a (by omega), up2_a (by omega)]; exact this
    · rw [up2_k hi, up2_k hi]
    · exact (Sm.rf.up (by decide)).up (by decide)
    · rw [up2_k (by omega), up2_k (by omega), e69]
    · show up2 _ 69 (40 + 6 * j) _ 69 (40 + 6 * j + r) = _
      unfold vBec
      rcases (show r = 0 ∨ r = 1 ∨ 2 ≤ r by omega) with rfl | rfl | hr2
      · exact up2_s
      · rw [up2_k (by omega), up2_s]; rfl
      · rw [if_neg (by omega), if_neg (by omega), up2_k (by omega), up2_k (by omega), e69]
    · rw [up2_k (by omega), up2_k (by omega)]
    · obtain ⟨w0, w1, w2, w3, w4, w5, w6⟩ := wf.hw hh
      obtain ⟨i, hi, rfl⟩ := (rngN 69 (by decide)).mp h2
      exact ⟨⟨i / 10, by omega, pk_div (a := i) (d := 10) (by omega) (by decide) (by decide)⟩, ⟨i % 10, by omega, irm_nI (b := 10) (by omega) (by decide) (by decide)⟩, w2, w3, w4, w5, w6⟩
  · exact OPr_err I (by decide) (by decide) (by decide) (e_become m h a (by rw [hT.1]; exact hc)) (f_become _ h a (fun q => hc ⟨(isH_c wf).mpr ((isH_m wf).mp (by have := q.1; rw [errC_o (by decide)] at this; exact this)), q.2⟩))
end O3
