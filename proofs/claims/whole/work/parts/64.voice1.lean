/-! voice: what one of a KIND tells, and THE TRACE -/
def psh (cb cc ck : Nat) : List Int32 → Nat → Mem → Mem
  | [], _, m => m
  | v :: L, n, m => psh cb cc ck L (n + 1) (up2 (up2 m cb n v) cc ck (nI (n + 1)))
abbrev pC : List Int32 → Nat → Mem → Mem := psh 59 58 1
abbrev pM : List Int32 → Nat → Mem → Mem := psh 76 68 16
theorem psh_o {cb cc ck b k : Nat} (h1 : b ≠ cb) (h2 : ¬ (b = cc ∧ k = ck)) : ∀ (L : List Int32) (n : Nat) (m : Mem), psh cb cc ck L n m b k = m b k
  | [], _, _ => rfl
  | v :: L, n, m => by
    show psh cb cc ck L (n + 1) _ b k = _
    rw [psh_o h1 h2 L, up2_n h2, up2_a h1]
theorem psh_r {cb cc ck b : Nat} (h1 : b ≠ cb) (h2 : b ≠ cc) (L : List Int32) (n : Nat) (m : Mem) : psh cb cc ck L n m b = m b := funext fun _ => psh_o h1 (fun q => h2 q.1) L n m
theorem psh_cnt {cb cc ck : Nat} : ∀ (L : List Int32) (n : Nat) (m : Mem), m cc ck = nI n → psh cb cc ck L n m cc ck = nI (n + L.length)
  | [], _, _, h => h
  | v :: L, n, m, _ => by
    show psh cb cc ck L (n + 1) _ cc ck = _
    rw [psh_cnt L (n + 1) _ up2_s]
    congr 1
    simp only [List.length_cons]
    omega
theorem psh_lt {cb cc ck j : Nat} (hc : cb ≠ cc) : ∀ (L : List Int32) (n : Nat) (m : Mem), j < n → psh cb cc ck L n m cb j = m cb j
  | [], _, _, _ => rfl
  | v :: L, n, m, h => by
    show psh cb cc ck L (n + 1) _ cb j = _
    rw [psh_lt hc L (n + 1) _ (by omega), up2_a hc, up2_k (by omega)]
theorem psh_get {cb cc ck : Nat} (hc : cb ≠ cc) : ∀ (L : List Int32) (n i : Nat) (m : Mem), i < L.length → psh cb cc ck L n m cb (n + i) = L.getD i 0
  | [], _, _, _, h => absurd h (Nat.not_lt_zero _)
  | v :: L, n, 0, m, _ => by
    show psh cb cc ck L (n + 1) _ cb n = v
    rw [psh_lt hc L (n + 1) _ (by omega), up2_a hc, up2_s]
  | v :: L, n, i + 1, m, h => by
    show psh cb cc ck L (n + 1) _ cb (n + (i + 1)) = L.getD i 0
    rw [show n + (i + 1) = n + 1 + i by omega]
    exact psh_get hc L (n + 1) i _ (by simpa using h)
def VS (m : Mem) (n : Nat) (w mk : Int32) : Prop := m 58 1 = nI n ∧ m 58 2 = w ∧ m 58 3 = mk
theorem VS.psh {m : Mem} {n : Nat} {w mk : Int32} (h : VS m n w mk) (L : List Int32) : VS (pC L n m) (n + L.length) w mk := ⟨psh_cnt L n m h.1, (psh_o (by decide) (by decide) L n m).trans h.2.1, (psh_o (by decide) (by decide) L n m).trans h.2.2⟩
def RV (m : Mem) (n h k : Nat) (mk : Int32) : Prop := m 68 16 = nI n ∧ m 68 17 = nI h ∧ hf (m 69) h 0 = nI k ∧ hf (m 69) h 1 = mk
theorem RV.psh {m : Mem} {n h k : Nat} {mk : Int32} (v : RV m n h k mk) (L : List Int32) : RV (pM L n m) (n + L.length) h k mk := by
  have e : pM L n m 69 = m 69 := psh_r (by decide) (by decide) L n m
  exact ⟨psh_cnt L n m v.1, (psh_o (by decide) (by decide) L n m).trans v.2.1, by rw [e]; exact v.2.2.1, by rw [e]; exact v.2.2.2⟩
theorem INV_voice {m m1 m2 : Mem} (I : INV m) (L : List Int32) (hL : L.length ≤ 40) (h1 : Sm [58, 59] m m1) (c1 : m1 58 1 = nI L.length) (g1 : ∀ i, i < L.length → m1 59 i = L.getD i 0) (h2 : Sm [68, 76] m1 m2) (h3 : m2 68 3 = m1 68 3) (c2 : m2 68 16 = nI L.length) (g2 : ∀ i, i < L.length → m2 76 i = L.getD i 0) : INV m2 := by
  obtain ⟨hD, ⟨a1, a2, a3, a4⟩, b, c, d⟩ := I
  have o : ∀ b, b ≠ 58 → b ≠ 59 → b ≠ 68 → b ≠ 76 → m2 b = m b := fun b x1 x2 x3 x4 => (h2 b (by simp; omega)).trans (h1 b (by simp; omega))
  have e3 : m2 68 3 = m 68 3 := h3.trans (congrFun (h1 68 (by decide)) 3)
  refine ⟨INVd_same hD (fun b hb => o b (fun q => ?_) (fun q => ?_) (fun q => ?_) (fun q => ?_)), ⟨by rw [o 0 (by decide) (by decide) (by decide) (by decide), e3]; exact a1, fun q => ?_, by rw [o 50 (by decide) (by decide) (by decide) (by decide)]; exact a3, by rw [o 54 (by decide) (by decide) (by decide) (by decide)]; exact a4⟩, fun k k1 k2 => by rw [o 67 (by decide) (by decide) (by decide) (by decide), o 72 (by decide) (by decide) (by decide) (by decide)]; exact b k k1 k2, ⟨?_, ⟨_, Nat.lt_succ_of_le hL, c2⟩, fun i hi => ?_⟩, fun s s4 => ?_⟩
  · subst q; exact absurd hb (by decide)
  · subst q; exact absurd hb (by decide)
  · subst q; exact absurd hb (by decide)
  · subst q; exact absurd hb (by decide)
  · rw [e3] at q
    obtain ⟨k1, k2, k3, k4⟩ := a2 q
    have e70 := o 70 (by decide) (by decide) (by decide) (by decide)
    exact ⟨by rw [e70]; exact k1, by rw [e70]; exact k2, by rw [e70]; exact TR_same k3 (fun b b1 b2 => o b (by omega) (by omega) (by omega) (by omega)), by rw [e70]; exact PR_same k4 (fun b b1 => o b (by omega) (by omega) (by omega) (by omega))⟩
  · rw [h2 58 (by decide), c1, c2]
  · rw [c2, nI_clamp (by omega)] at hi
    rw [h2 59 (by decide), g1 i hi, g2 i hi]
  · obtain ⟨x1, x2, x3, x4, x5⟩ := d s s4
    have q : ∀ b, 60 ≤ b → b ≠ 68 → b ≠ 76 → m2 b = m b := fun b y1 y2 y3 => o b (by omega) (by omega) y2 y3
    exact ⟨by rw [q 65 (by decide) (by decide) (by decide), q 77 (by decide) (by decide) (by decide)]; exact x1, by rw [q 66 (by decide) (by decide) (by decide), q 78 (by decide) (by decide) (by decide)]; exact x2, by rw [q 77 (by decide) (by decide) (by decide)]; exact x3, by rw [q 78 (by decide) (by decide) (by decide)]; exact x4, fun i hi => by rw [q (61 + s) (by omega) (by omega) (by omega), q 79 (by decide) (by decide) (by decide)]; exact x5 i hi⟩
section O30
variable {l : Launch} {g : Gv}
set_option maxRecDepth 100000 in
theorem v_begin (m : Mem) (n : Nat) (v : Int32) (hn : n < 40) (h : m 58 1 = nI n) : JM l g 0 mX9_begin [rf g 58, .int v] m (RF none (up2 (up2 m 59 n v) 58 1 (nI (n + 1)))) := by
  refine JM_of (ls := [some (rf g 58), some (.int v)]) pn_X9 rfl rfl ?_
  refine j_aload0 1 dX9_begin_0 rfl ?_
  refine j_getI 4 dX9_begin_1 rfl fl_X9_22 rfl rfl ?_
  refine j_top h ?_
  refine j_if_lt 36 7 dX9_begin_4 rfl rfl (fun h4 => absurd h4 (nI_pos (by omega))) (fun h4 => ?_)
  refine j_aload0 8 dX9_begin_7 rfl ?_
  refine j_getI 11 dX9_begin_8 rfl fl_X9_22 rfl rfl ?_
  refine j_top h ?_
  refine j_bipush 13 (v := 40) dX9_begin_11 rfl rfl ?_
  refine j_cmp_ge 36 16 dX9_begin_13 rfl rfl (fun h13 => absurd h13 (nI_ge (a := n) (b := 40) hn (by decide))) (fun h13 => ?_)
  refine j_aload0 17 dX9_begin_16 rfl ?_
  refine j_getR 20 dX9_begin_17 rfl fl_X9_9 rfl rfl ?_
  refine j_aload0 21 dX9_begin_20 rfl ?_
  refine j_getI 24 dX9_begin_21 rfl fl_X9_22 rfl rfl ?_
  refine j_top h ?_
  refine j_iload1 25 dX9_begin_24 rfl ?_
  refine j_iast 26 n rfl hn dX9_begin_25 rfl rfl ?_
  refine j_aload0 27 dX9_begin_26 rfl ?_
  refine j_dup 28 dX9_begin_27 rfl rfl ?_
  refine j_getI 31 dX9_begin_28 rfl fl_X9_22 rfl rfl ?_
  refine j_top ((up2_a (by decide)).trans h) ?_
  refine j_iconst 32 (v := 1) dX9_begin_31 rfl rfl ?_
  refine j_iadd 33 dX9_begin_32 rfl ?_
  refine j_top (nI_1 n) ?_
  refine j_putI 36 dX9_begin_33 rfl fp_X9_22 rfl rfl ?_
  refine j_vret dX9_begin_36 rfl ?_
  exact ⟨rfl, rfl⟩
set_option maxRecDepth 100000 in
theorem v_ran (m : Mem) (n : Nat) (v : Int32) (hn : n < 40) (h : m 68 16 = nI n) : JM l g 0 mX12_ran [rf g 68, .int v] m (RF none (up2 (up2 m 76 n v) 68 16 (nI (n + 1)))) := by
  refine JM_of (ls := [some (rf g 68), some (.int v)]) pn_X12 rfl rfl ?_
  refine j_aload0 1 dX12_ran_0 rfl ?_
  refine j_getI 4 dX12_ran_1 rfl fl_X12_255 rfl rfl ?_
  refine j_top h ?_
  refine j_bipush 6 (v := 40) dX12_ran_4 rfl rfl ?_
  refine j_cmp_ge 29 9 dX12_ran_6 rfl rfl (fun h6 => absurd h6 (nI_ge (a := n) (b := 40) hn (by decide))) (fun h6 => ?_)
  refine j_aload0 10 dX12_ran_9 rfl ?_
  refine j_getR 13 dX12_ran_10 rfl fl_X12_31 rfl rfl ?_
  refine j_aload0 14 dX12_ran_13 rfl ?_
  refine j_getI 17 dX12_ran_14 rfl fl_X12_255 rfl rfl ?_
  refine j_top h ?_
  refine j_iload1 18 dX12_ran_17 rfl ?_
  refine j_iast 19 n rfl hn dX12_ran_18 rfl rfl ?_
  refine j_aload0 20 dX12_ran_19 rfl ?_
  refine j_dup 21 dX12_ran_20 rfl rfl ?_
  refine j_getI 24 dX12_ran_21 rfl fl_X12_255 rfl rfl ?_
  refine j_top ((up2_a (by decide)).trans h) ?_
  refine j_iconst 25 (v := 1) dX12_ran_24 rfl rfl ?_
  refine j_iadd 26 dX12_ran_25 rfl ?_
  refine j_top (nI_1 n) ?_
  refine j_putI 29 dX12_ran_26 rfl fp_X12_255 rfl rfl ?_
  refine j_vret dX12_ran_29 rfl ?_
  exact ⟨rfl, rfl⟩
set_option maxRecDepth 100000 in
theorem vl0_2 (m : Mem) (n : Nat) (x w mk : Int32) (h : VS m n w mk) (hn : n + 1 ≤ 40) : JM l g 1 mX5_lies [rf g 2, rf g 58, .int x] m (RF (some (.int (x + w))) (pC [10] n m)) := by
  refine JM_of (ls := [some (rf g 2), some (rf g 58), some (.int x)]) pn_X5 rfl rfl ?_
  refine j_aload1 1 dX5_lies_0 rfl ?_
  refine j_bipush 3 (v := 10) dX5_lies_1 rfl rfl ?_
  refine j_vi1v 6 dX5_lies_3 rfl rfl cl_X5_7 rfl rfl (v_begin m n 10 (by omega) h.1) ?_
  refine j_iload2 7 dX5_lies_6 rfl ?_
  refine j_aload1 8 dX5_lies_7 rfl ?_
  refine j_getI 11 dX5_lies_8 rfl fl_X5_13 rfl rfl ?_
  refine j_top (h.psh [10]).2.1 ?_
  refine j_iadd 12 dX5_lies_11 rfl ?_
  refine j_iret dX5_lies_12 rfl ?_
  exact ⟨rfl, rfl⟩
set_option maxRecDepth 100000 in
theorem vd0_2 (m : Mem) (n : Nat) (x w mk : Int32) (h : VS m n w mk) (hn : n + 1 ≤ 40) : JM l g 1 mX5_drifts [rf g 2, rf g 58, .int x] m (RF (some (.int (x - mk))) (pC [12] n m)) := by
  refine JM_of (ls := [some (rf g 2), some (rf g 58), some (.int x)]) pn_X5 rfl rfl ?_
  refine j_aload1 1 dX5_drifts_0 rfl ?_
  refine j_bipush 3 (v := 12) dX5_drifts_1 rfl rfl ?_
  refine j_vi1v 6 dX5_drifts_3 rfl rfl cl_X5_7 rfl rfl (v_begin m n 12 (by omega) h.1) ?_
  refine j_iload2 7 dX5_drifts_6 rfl ?_
  refine j_aload1 8 dX5_drifts_7 rfl ?_
  refine j_getI 11 dX5_drifts_8 rfl fl_X5_23 rfl rfl ?_
  refine j_top (h.psh [12]).2.2 ?_
  refine j_isub 12 dX5_drifts_11 rfl ?_
  refine j_iret dX5_drifts_12 rfl ?_
  exact ⟨rfl, rfl⟩
set_option maxRecDepth 100000 in
theorem vl0_3 (m : Mem) (n : Nat) (x w mk : Int32) (h : VS m n w mk) (hn : n + 1 ≤ 40) : JM l g 1 mX5_lies [rf g 3, rf g 58, .int x] m (RF (some (.int (x + w))) (pC [10] n m)) := by
  refine JM_of (ls := [some (rf g 3), some (rf g 58), some (.int x)]) pn_X5 rfl rfl ?_
  refine j_aload1 1 dX5_lies_0 rfl ?_
  refine j_bipush 3 (v := 10) dX5_lies_1 rfl rfl ?_
  refine j_vi1v 6 dX5_lies_3 rfl rfl cl_X5_7 rfl rfl (v_begin m n 10 (by omega) h.1) ?_
  refine j_iload2 7 dX5_lies_6 rfl ?_
  refine j_aload1 8 dX5_lies_7 rfl ?_
  refine j_getI 11 dX5_lies_8 rfl fl_X5_13 rfl rfl ?_
  refine j_top (h.psh [10]).2.1 ?_
  refine j_iadd 12 dX5_lies_11 rfl ?_
  refine j_iret dX5_lies_12 rfl ?_
  exact ⟨rfl, rfl⟩
set_option maxRecDepth 100000 in
theorem vd0_3 (m : Mem) (n : Nat) (x w mk : Int32) (h : VS m n w mk) (hn : n + 1 ≤ 40) : JM l g 1 mX5_drifts [rf g 3, rf g 58, .int x] m (RF (some (.int (x - mk))) (pC [12] n m)) := by
  refine JM_of (ls := [some (rf g 3), some (rf g 58), some (.int x)]) pn_X5 rfl rfl ?_
  refine j_aload1 1 dX5_drifts_0 rfl ?_
  refine j_bipush 3 (v := 12) dX5_drifts_1 rfl rfl ?_
  refine j_vi1v 6 dX5_drifts_3 rfl rfl cl_X5_7 rfl rfl (v_begin m n 12 (by omega) h.1) ?_
  refine j_iload2 7 dX5_drifts_6 rfl ?_
  refine j_aload1 8 dX5_drifts_7 rfl ?_
  refine j_getI 11 dX5_drifts_8 rfl fl_X5_23 rfl rfl ?_
  refine j_top (h.psh [12]).2.2 ?_
  refine j_isub 12 dX5_drifts_11 rfl ?_
  refine j_iret dX5_drifts_12 rfl ?_
  exact ⟨rfl, rfl⟩
set_option maxRecDepth 100000 in
theorem vl0_4 (m : Mem) (n : Nat) (x w mk : Int32) (h : VS m n w mk) (hn : n + 1 ≤ 40) : JM l g 1 mX5_lies [rf g 4, rf g 58, .int x] m (RF (some (.int (x + w))) (pC [10] n m)) := by
  refine JM_of (ls := [some (rf g 4), some (rf g 58), some (.int x)]) pn_X5 rfl rfl ?_
  refine j_aload1 1 dX5_lies_0 rfl ?_
  refine j_bipush 3 (v := 10) dX5_lies_1 rfl rfl ?_
  refine j_vi1v 6 dX5_lies_3 rfl rfl cl_X5_7 rfl rfl (v_begin m n 10 (by omega) h.1) ?_
  refine j_iload2 7 dX5_lies_6 rfl ?_
  refine j_aload1 8 dX5_lies_7 rfl ?_
  refine j_getI 11 dX5_lies_8 rfl fl_X5_13 rfl rfl ?_
  refine j_top (h.psh [10]).2.1 ?_
  refine j_iadd 12 dX5_lies_11 rfl ?_
  refine j_iret dX5_lies_12 rfl ?_
  exact ⟨rfl, rfl⟩
set_option maxRecDepth 100000 in
theorem vd0_4 (m : Mem) (n : Nat) (x w mk : Int32) (h : VS m n w mk) (hn : n + 1 ≤ 40) : JM l g 1 mX5_drifts [rf g 4, rf g 58, .int x] m (RF (some (.int (x - mk))) (pC [12] n m)) := by
  refine JM_of (ls := [some (rf g 4), some (rf g 58), some (.int x)]) pn_X5 rfl rfl ?_
  refine j_aload1 1 dX5_drifts_0 rfl ?_
  refine j_bipush 3 (v := 12) dX5_drifts_1 rfl rfl ?_
  refine j_vi1v 6 dX5_drifts_3 rfl rfl cl_X5_7 rfl rfl (v_begin m n 12 (by omega) h.1) ?_
  refine j_iload2 7 dX5_drifts_6 rfl ?_
  refine j_aload1 8 dX5_drifts_7 rfl ?_
  refine j_getI 11 dX5_drifts_8 rfl fl_X5_23 rfl rfl ?_
  refine j_top (h.psh [12]).2.2 ?_
  refine j_isub 12 dX5_drifts_11 rfl ?_
  refine j_iret dX5_drifts_12 rfl ?_
  exact ⟨rfl, rfl⟩
set_option maxRecDepth 100000 in
theorem vl0_5 (m : Mem) (n : Nat) (x w mk : Int32) (h : VS m n w mk) (hn : n + 1 ≤ 40) : JM l g 1 mX5_lies [rf g 5, rf g 58, .int x] m (RF (some (.int (x + w))) (pC [10] n m)) := by
  refine JM_of (ls := [some (rf g 5), some (rf g 58), some (.int x)]) pn_X5 rfl rfl ?_
  refine j_aload1 1 dX5_lies_0 rfl ?_
  refine j_bipush 3 (v := 10) dX5_lies_1 rfl rfl ?_
  refine j_vi1v 6 dX5_lies_3 rfl rfl cl_X5_7 rfl rfl (v_begin m n 10 (by omega) h.1) ?_
  refine j_iload2 7 dX5_lies_6 rfl ?_
  refine j_aload1 8 dX5_lies_7 rfl ?_
  refine j_getI 11 dX5_lies_8 rfl fl_X5_13 rfl rfl ?_
  refine j_top (h.psh [10]).2.1 ?_
  refine j_iadd 12 dX5_lies_11 rfl ?_
  refine j_iret dX5_lies_12 rfl ?_
  exact ⟨rfl, rfl⟩
set_option maxRecDepth 100000 in
theorem vd0_5 (m : Mem) (n : Nat) (x w mk : Int32) (h : VS m n w mk) (hn : n + 1 ≤ 40) : JM l g 1 mX5_drifts [rf g 5, rf g 58, .int x] m (RF (some (.int (x - mk))) (pC [12] n m)) := by
  refine JM_of (ls := [some (rf g 5), some (rf g 58), some (.int x)]) pn_X5 rfl rfl ?_
  refine j_aload1 1 dX5_drifts_0 rfl ?_
  refine j_bipush 3 (v := 12) dX5_drifts_1 rfl rfl ?_
  refine j_vi1v 6 dX5_drifts_3 rfl rfl cl_X5_7 rfl rfl (v_begin m n 12 (by omega) h.1) ?_
  refine j_iload2 7 dX5_drifts_6 rfl ?_
  refine j_aload1 8 dX5_drifts_7 rfl ?_
  refine j_getI 11 dX5_drifts_8 rfl fl_X5_23 rfl rfl ?_
  refine j_top (h.psh [12]).2.2 ?_
  refine j_isub 12 dX5_drifts_11 rfl ?_
  refine j_iret dX5_drifts_12 rfl ?_
  exact ⟨rfl, rfl⟩
set_option maxRecDepth 100000 in
theorem vl0_6 (m : Mem) (n : Nat) (x w mk : Int32) (h : VS m n w mk) (hn : n + 1 ≤ 40) : JM l g 1 mX5_lies [rf g 6, rf g 58, .int x] m (RF (some (.int (x + w))) (pC [10] n m)) := by
  refine JM_of (ls := [some (rf g 6), some (rf g 58), some (.int x)]) pn_X5 rfl rfl ?_
  refine j_aload1 1 dX5_lies_0 rfl ?_
  refine j_bipush 3 (v := 10) dX5_lies_1 rfl rfl ?_
  refine j_vi1v 6 dX5_lies_3 rfl rfl cl_X5_7 rfl rfl (v_begin m n 10 (by omega) h.1) ?_
  refine j_iload2 7 dX5_lies_6 rfl ?_
  refine j_aload1 8 dX5_lies_7 rfl ?_
  refine j_getI 11 dX5_lies_8 rfl fl_X5_13 rfl rfl ?_
  refine j_top (h.psh [10]).2.1 ?_
  refine j_iadd 12 dX5_lies_11 rfl ?_
  refine j_iret dX5_lies_12 rfl ?_
  exact ⟨rfl, rfl⟩
set_option maxRecDepth 100000 in
theorem vd0_6 (m : Mem) (n : Nat) (x w mk : Int32) (h : VS m n w mk) (hn : n + 1 ≤ 40) : JM l g 1 mX5_drifts [rf g 6, rf g 58, .int x] m (RF (some (.int (x - mk))) (pC [12] n m)) := by
  refine JM_of (ls := [some (rf g 6), some (rf g 58), some (.int x)]) pn_X5 rfl rfl ?_
  refine j_aload1 1 dX5_drifts_0 rfl ?_
  refine j_bipush 3 (v := 12) dX5_drifts_1 rfl rfl ?_
  refine j_vi1v 6 dX5_drifts_3 rfl rfl cl_X5_7 rfl rfl (v_begin m n 12 (by omega) h.1) ?_
  refine j_iload2 7 dX5_drifts_6 rfl ?_
  refine j_aload1 8 dX5_drifts_7 rfl ?_
  refine j_getI 11 dX5_drifts_8 rfl fl_X5_23 rfl rfl ?_
  refine j_top (h.psh [12]).2.2 ?_
  refine j_isub 12 dX5_drifts_11 rfl ?_
  refine j_iret dX5_drifts_12 rfl ?_
  exact ⟨rfl, rfl⟩
set_option maxRecDepth 100000 in
theorem vl0_7 (m : Mem) (n : Nat) (x w mk : Int32) (h : VS m n w mk) (hn : n + 1 ≤ 40) : JM l g 1 mX5_lies [rf g 7, rf g 58, .int x] m (RF (some (.int (x + w))) (pC [10] n m)) := by
  refine JM_of (ls := [some (rf g 7), some (rf g 58), some (.int x)]) pn_X5 rfl rfl ?_
  refine j_aload1 1 dX5_lies_0 rfl ?_
  refine j_bipush 3 (v := 10) dX5_lies_1 rfl rfl ?_
  refine j_vi1v 6 dX5_lies_3 rfl rfl cl_X5_7 rfl rfl (v_begin m n 10 (by omega) h.1) ?_
  refine j_iload2 7 dX5_lies_6 rfl ?_
  refine j_aload1 8 dX5_lies_7 rfl ?_
  refine j_getI 11 dX5_lies_8 rfl fl_X5_13 rfl rfl ?_
  refine j_top (h.psh [10]).2.1 ?_
  refine j_iadd 12 dX5_lies_11 rfl ?_
  refine j_iret dX5_lies_12 rfl ?_
  exact ⟨rfl, rfl⟩
set_option maxRecDepth 100000 in
theorem vd0_7 (m : Mem) (n : Nat) (x w mk : Int32) (h : VS m n w mk) (hn : n + 1 ≤ 40) : JM l g 1 mX5_drifts [rf g 7, rf g 58, .int x] m (RF (some (.int (x - mk))) (pC [12] n m)) := by
  refine JM_of (ls := [some (rf g 7), some (rf g 58), some (.int x)]) pn_X5 rfl rfl ?_
  refine j_aload1 1 dX5_drifts_0 rfl ?_
  refine j_bipush 3 (v := 12) dX5_drifts_1 rfl rfl ?_
  refine j_vi1v 6 dX5_drifts_3 rfl rfl cl_X5_7 rfl rfl (v_begin m n 12 (by omega) h.1) ?_
  refine j_iload2 7 dX5_drifts_6 rfl ?_
  refine j_aload1 8 dX5_drifts_7 rfl ?_
  refine j_getI 11 dX5_drifts_8 rfl fl_X5_23 rfl rfl ?_
  refine j_top (h.psh [12]).2.2 ?_
  refine j_isub 12 dX5_drifts_11 rfl ?_
  refine j_iret dX5_drifts_12 rfl ?_
  exact ⟨rfl, rfl⟩
set_option maxRecDepth 100000 in
theorem vl0_8 (m : Mem) (n : Nat) (x w mk : Int32) (h : VS m n w mk) (hn : n + 1 ≤ 40) : JM l g 1 mX5_lies [rf g 8, rf g 58, .int x] m (RF (some (.int (x + w))) (pC [10] n m)) := by
  refine JM_of (ls := [some (rf g 8), some (rf g 58), some (.int x)]) pn_X5 rfl rfl ?_
  refine j_aload1 1 dX5_lies_0 rfl ?_
  refine j_bipush 3 (v := 10) dX5_lies_1 rfl rfl ?_
  refine j_vi1v 6 dX5_lies_3 rfl rfl cl_X5_7 rfl rfl (v_begin m n 10 (by omega) h.1) ?_
  refine j_iload2 7 dX5_lies_6 rfl ?_
  refine j_aload1 8 dX5_lies_7 rfl ?_
  refine j_getI 11 dX5_lies_8 rfl fl_X5_13 rfl rfl ?_
  refine j_top (h.psh [10]).2.1 ?_
  refine j_iadd 12 dX5_lies_11 rfl ?_
  refine j_iret dX5_lies_12 rfl ?_
  exact ⟨rfl, rfl⟩
set_option maxRecDepth 100000 in
theorem vd0_8 (m : Mem) (n : Nat) (x w mk : Int32) (h : VS m n w mk) (hn : n + 1 ≤ 40) : JM l g 1 mX5_drifts [rf g 8, rf g 58, .int x] m (RF (some (.int (x - mk))) (pC [12] n m)) := by
  refine JM_of (ls := [some (rf g 8), some (rf g 58), some (.int x)]) pn_X5 rfl rfl ?_
  refine j_aload1 1 dX5_drifts_0 rfl ?_
  refine j_bipush 3 (v := 12) dX5_drifts_1 rfl rfl ?_
  refine j_vi1v 6 dX5_drifts_3 rfl rfl cl_X5_7 rfl rfl (v_begin m n 12 (by omega) h.1) ?_
  refine j_iload2 7 dX5_drifts_6 rfl ?_
  refine j_aload1 8 dX5_drifts_7 rfl ?_
  refine j_getI 11 dX5_drifts_8 rfl fl_X5_23 rfl rfl ?_
  refine j_top (h.psh [12]).2.2 ?_
  refine j_isub 12 dX5_drifts_11 rfl ?_
  refine j_iret dX5_drifts_12 rfl ?_
  exact ⟨rfl, rfl⟩
set_option maxRecDepth 100000 in
theorem vl1_3 (m : Mem) (n : Nat) (x w mk : Int32) (h : VS m n w mk) (hn : n + 2 ≤ 40) : JM l g 2 mX7_lies [rf g 3, rf g 58, .int x] m (RF (some (.int ((x + w) * 3))) (pC [20, 10] n m)) := by
  refine JM_of (ls := [some (rf g 3), some (rf g 58), some (.int x)]) pn_X7 rfl rfl ?_
  refine j_aload1 1 dX7_lies_0 rfl ?_
  refine j_bipush 3 (v := 20) dX7_lies_1 rfl rfl ?_
  refine j_vi1v 6 dX7_lies_3 rfl rfl cl_X7_7 rfl rfl (v_begin m n 20 (by omega) h.1) ?_
  refine j_aload0 7 dX7_lies_6 rfl ?_
  refine j_aload1 8 dX7_lies_7 rfl ?_
  refine j_iload2 9 dX7_lies_8 rfl ?_
  refine j_su2f (ci := 7) 12 dX7_lies_9 rfl rfl cl_X7_13 rfl rfl rfl (vl0_3 _ (n + 1) x w mk (h.psh [20]) (by omega)) ?_
  refine j_iconst 13 (v := 3) dX7_lies_12 rfl rfl ?_
  refine j_imul 14 dX7_lies_13 rfl ?_
  refine j_iret dX7_lies_14 rfl ?_
  exact ⟨rfl, rfl⟩
set_option maxRecDepth 100000 in
theorem vl1_6 (m : Mem) (n : Nat) (x w mk : Int32) (h : VS m n w mk) (hn : n + 2 ≤ 40) : JM l g 2 mX7_lies [rf g 6, rf g 58, .int x] m (RF (some (.int ((x + w) * 3))) (pC [20, 10] n m)) := by
  refine JM_of (ls := [some (rf g 6), some (rf g 58), some (.int x)]) pn_X7 rfl rfl ?_
  refine j_aload1 1 dX7_lies_0 rfl ?_
  refine j_bipush 3 (v := 20) dX7_lies_1 rfl rfl ?_
  refine j_vi1v 6 dX7_lies_3 rfl rfl cl_X7_7 rfl rfl (v_begin m n 20 (by omega) h.1) ?_
  refine j_aload0 7 dX7_lies_6 rfl ?_
  refine j_aload1 8 dX7_lies_7 rfl ?_
  refine j_iload2 9 dX7_lies_8 rfl ?_
  refine j_su2f (ci := 3) 12 dX7_lies_9 rfl rfl cl_X7_13 rfl rfl rfl (vl0_6 _ (n + 1) x w mk (h.psh [20]) (by omega)) ?_
  refine j_iconst 13 (v := 3) dX7_lies_12 rfl rfl ?_
  refine j_imul 14 dX7_lies_13 rfl ?_
  refine j_iret dX7_lies_14 rfl ?_
  exact ⟨rfl, rfl⟩
set_option maxRecDepth 100000 in
theorem vd1_5 (m : Mem) (n : Nat) (x w mk : Int32) (h : VS m n w mk) (hn : n + 2 ≤ 40) : JM l g 2 mX0_drifts [rf g 5, rf g 58, .int x] m (RF (some (.int (-(x - mk)))) (pC [40, 12] n m)) := by
  refine JM_of (ls := [some (rf g 5), some (rf g 58), some (.int x)]) pn_X0 rfl rfl ?_
  refine j_aload1 1 dX0_drifts_0 rfl ?_
  refine j_bipush 3 (v := 40) dX0_drifts_1 rfl rfl ?_
  refine j_vi1v 6 dX0_drifts_3 rfl rfl cl_X0_9 rfl rfl (v_begin m n 40 (by omega) h.1) ?_
  refine j_aload0 7 dX0_drifts_6 rfl ?_
  refine j_aload1 8 dX0_drifts_7 rfl ?_
  refine j_iload2 9 dX0_drifts_8 rfl ?_
  refine j_su2f (ci := 0) 12 dX0_drifts_9 rfl rfl cl_X0_15 rfl rfl rfl (vd0_5 _ (n + 1) x w mk (h.psh [40]) (by omega)) ?_
  refine j_ineg 13 dX0_drifts_12 rfl ?_
  refine j_iret dX0_drifts_13 rfl ?_
  exact ⟨rfl, rfl⟩
set_option maxRecDepth 100000 in
theorem vd1_8 (m : Mem) (n : Nat) (x w mk : Int32) (h : VS m n w mk) (hn : n + 2 ≤ 40) : JM l g 2 mX0_drifts [rf g 8, rf g 58, .int x] m (RF (some (.int (-(x - mk)))) (pC [40, 12] n m)) := by
  refine JM_of (ls := [some (rf g 8), some (rf g 58), some (.int x)]) pn_X0 rfl rfl ?_
  refine j_aload1 1 dX0_drifts_0 rfl ?_
  refine j_bipush 3 (v := 40) dX0_drifts_1 rfl rfl ?_
  refine j_vi1v 6 dX0_drifts_3 rfl rfl cl_X0_9 rfl rfl (v_begin m n 40 (by omega) h.1) ?_
  refine j_aload0 7 dX0_drifts_6 rfl ?_
  refine j_aload1 8 dX0_drifts_7 rfl ?_
  refine j_iload2 9 dX0_drifts_8 rfl ?_
  refine j_su2f (ci := 4) 12 dX0_drifts_9 rfl rfl cl_X0_15 rfl rfl rfl (vd0_8 _ (n + 1) x w mk (h.psh [40]) (by omega)) ?_
  refine j_ineg 13 dX0_drifts_12 rfl ?_
  refine j_iret dX0_drifts_13 rfl ?_
  exact ⟨rfl, rfl⟩
set_option maxRecDepth 100000 in
theorem vd2_8 (m : Mem) (n : Nat) (x w mk : Int32) (h : VS m n w mk) (hn : n + 3 ≤ 40) : JM l g 3 mX4_drifts [rf g 8, rf g 58, .int x] m (RF (some (.int ((-(x - mk)) ^^^ w))) (pC [70, 40, 12] n m)) := by
  refine JM_of (ls := [some (rf g 8), some (rf g 58), some (.int x)]) pn_X4 rfl rfl ?_
  refine j_aload1 1 dX4_drifts_0 rfl ?_
  refine j_bipush 3 (v := 70) dX4_drifts_1 rfl rfl ?_
  refine j_vi1v 6 dX4_drifts_3 rfl rfl cl_X4_24 rfl rfl (v_begin m n 70 (by omega) h.1) ?_
  refine j_aload0 7 dX4_drifts_6 rfl ?_
  refine j_aload1 8 dX4_drifts_7 rfl ?_
  refine j_iload2 9 dX4_drifts_8 rfl ?_
  refine j_su2f (ci := 4) 12 dX4_drifts_9 rfl rfl cl_X4_30 rfl rfl rfl (vd1_8 _ (n + 1) x w mk (h.psh [70]) (by omega)) ?_
  refine j_aload1 13 dX4_drifts_12 rfl ?_
  refine j_getI 16 dX4_drifts_13 rfl fl_X4_34 rfl rfl ?_
  refine j_top (h.psh [70, 40, 12]).2.1 ?_
  refine j_ixor 17 dX4_drifts_16 rfl ?_
  refine j_iret dX4_drifts_17 rfl ?_
  exact ⟨rfl, rfl⟩
set_option maxRecDepth 100000 in
theorem vs0_2 (m : Mem) (n : Nat) (x w mk : Int32) (h : VS m n w mk) (hn : n + 2 ≤ 40) : JM l g 4 mX5_shines [rf g 2, rf g 58, .int x] m (RF (some (.int ((x + w) * 2))) (pC [11, 10] n m)) := by
  refine JM_of (ls := [some (rf g 2), some (rf g 58), some (.int x)]) pn_X5 rfl rfl ?_
  refine j_aload1 1 dX5_shines_0 rfl ?_
  refine j_bipush 3 (v := 11) dX5_shines_1 rfl rfl ?_
  refine j_vi1v 6 dX5_shines_3 rfl rfl cl_X5_7 rfl rfl (v_begin m n 11 (by omega) h.1) ?_
  refine j_aload0 7 dX5_shines_6 rfl ?_
  refine j_aload1 8 dX5_shines_7 rfl ?_
  refine j_iload2 9 dX5_shines_8 rfl ?_
  refine j_dy2f 12 dX5_shines_9 rfl rfl cu_X5_17_X5 rfl rfl (vl0_2 _ (n + 1) x w mk (h.psh [11]) (by omega)) ?_
  refine j_iconst 13 (v := 2) dX5_shines_12 rfl rfl ?_
  refine j_imul 14 dX5_shines_13 rfl ?_
  refine j_iret dX5_shines_14 rfl ?_
  exact ⟨rfl, rfl⟩
set_option maxRecDepth 100000 in
theorem vs0_3 (m : Mem) (n : Nat) (x w mk : Int32) (h : VS m n w mk) (hn : n + 3 ≤ 40) : JM l g 4 mX5_shines [rf g 3, rf g 58, .int x] m (RF (some (.int (((x + w) * 3) * 2))) (pC [11, 20, 10] n m)) := by
  refine JM_of (ls := [some (rf g 3), some (rf g 58), some (.int x)]) pn_X5 rfl rfl ?_
  refine j_aload1 1 dX5_shines_0 rfl ?_
  refine j_bipush 3 (v := 11) dX5_shines_1 rfl rfl ?_
  refine j_vi1v 6 dX5_shines_3 rfl rfl cl_X5_7 rfl rfl (v_begin m n 11 (by omega) h.1) ?_
  refine j_aload0 7 dX5_shines_6 rfl ?_
  refine j_aload1 8 dX5_shines_7 rfl ?_
  refine j_iload2 9 dX5_shines_8 rfl ?_
  refine j_dy2f 12 dX5_shines_9 rfl rfl cu_X5_17_X7 rfl rfl (vl1_3 _ (n + 1) x w mk (h.psh [11]) (by omega)) ?_
  refine j_iconst 13 (v := 2) dX5_shines_12 rfl rfl ?_
  refine j_imul 14 dX5_shines_13 rfl ?_
  refine j_iret dX5_shines_14 rfl ?_
  exact ⟨rfl, rfl⟩
set_option maxRecDepth 100000 in
theorem vs0_4 (m : Mem) (n : Nat) (x w mk : Int32) (h : VS m n w mk) (hn : n + 2 ≤ 40) : JM l g 4 mX5_shines [rf g 4, rf g 58, .int x] m (RF (some (.int ((x + w) * 2))) (pC [11, 10] n m)) := by
  refine JM_of (ls := [some (rf g 4), some (rf g 58), some (.int x)]) pn_X5 rfl rfl ?_
  refine j_aload1 1 dX5_shines_0 rfl ?_
  refine j_bipush 3 (v := 11) dX5_shines_1 rfl rfl ?_
  refine j_vi1v 6 dX5_shines_3 rfl rfl cl_X5_7 rfl rfl (v_begin m n 11 (by omega) h.1) ?_
  refine j_aload0 7 dX5_shines_6 rfl ?_
  refine j_aload1 8 dX5_shines_7 rfl ?_
  refine j_iload2 9 dX5_shines_8 rfl ?_
  refine j_dy2f 12 dX5_shines_9 rfl rfl cu_X5_17_X1 rfl rfl (vl0_4 _ (n + 1) x w mk (h.psh [11]) (by omega)) ?_
  refine j_iconst 13 (v := 2) dX5_shines_12 rfl rfl ?_
  refine j_imul 14 dX5_shines_13 rfl ?_
  refine j_iret dX5_shines_14 rfl ?_
  exact ⟨rfl, rfl⟩
set_option maxRecDepth 100000 in
theorem vs0_5 (m : Mem) (n : Nat) (x w mk : Int32) (h : VS m n w mk) (hn : n + 2 ≤ 40) : JM l g 4 mX5_shines [rf g 5, rf g 58, .int x] m (RF (some (.int ((x + w) * 2))) (pC [11, 10] n m)) := by
  refine JM_of (ls := [some (rf g 5), some (rf g 58), some (.int x)]) pn_X5 rfl rfl ?_
  refine j_aload1 1 dX5_shines_0 rfl ?_
  refine j_bipush 3 (v := 11) dX5_shines_1 rfl rfl ?_
  refine j_vi1v 6 dX5_shines_3 rfl rfl cl_X5_7 rfl rfl (v_begin m n 11 (by omega) h.1) ?_
  refine j_aload0 7 dX5_shines_6 rfl ?_
  refine j_aload1 8 dX5_shines_7 rfl ?_
  refine j_iload2 9 dX5_shines_8 rfl ?_
  refine j_dy2f 12 dX5_shines_9 rfl rfl cu_X5_17_X0 rfl rfl (vl0_5 _ (n + 1) x w mk (h.psh [11]) (by omega)) ?_
  refine j_iconst 13 (v := 2) dX5_shines_12 rfl rfl ?_
  refine j_imul 14 dX5_shines_13 rfl ?_
  refine j_iret dX5_shines_14 rfl ?_
  exact ⟨rfl, rfl⟩
set_option maxRecDepth 100000 in
theorem vs0_6 (m : Mem) (n : Nat) (x w mk : Int32) (h : VS m n w mk) (hn : n + 3 ≤ 40) : JM l g 4 mX5_shines [rf g 6, rf g 58, .int x] m (RF (some (.int (((x + w) * 3) * 2))) (pC [11, 20, 10] n m)) := by
  refine JM_of (ls := [some (rf g 6), some (rf g 58), some (.int x)]) pn_X5 rfl rfl ?_
  refine j_aload1 1 dX5_shines_0 rfl ?_
  refine j_bipush 3 (v := 11) dX5_shines_1 rfl rfl ?_
  refine j_vi1v 6 dX5_shines_3 rfl rfl cl_X5_7 rfl rfl (v_begin m n 11 (by omega) h.1) ?_
  refine j_aload0 7 dX5_shines_6 rfl ?_
  refine j_aload1 8 dX5_shines_7 rfl ?_
  refine j_iload2 9 dX5_shines_8 rfl ?_
  refine j_dy2f 12 dX5_shines_9 rfl rfl cu_X5_17_X3 rfl rfl (vl1_6 _ (n + 1) x w mk (h.psh [11]) (by omega)) ?_
  refine j_iconst 13 (v := 2) dX5_shines_12 rfl rfl ?_
  refine j_imul 14 dX5_shines_13 rfl ?_
  refine j_iret dX5_shines_14 rfl ?_
  exact ⟨rfl, rfl⟩
set_option maxRecDepth 100000 in
theorem vs0_7 (m : Mem) (n : Nat) (x w mk : Int32) (h : VS m n w mk) (hn : n + 2 ≤ 40) : JM l g 4 mX5_shines [rf g 7, rf g 58, .int x] m (RF (some (.int ((x + w) * 2))) (pC [11, 10] n m)) := by
  refine JM_of (ls := [some (rf g 7), some (rf g 58), some (.int x)]) pn_X5 rfl rfl ?_
  refine j_aload1 1 dX5_shines_0 rfl ?_
  refine j_bipush 3 (v := 11) dX5_shines_1 rfl rfl ?_
  refine j_vi1v 6 dX5_shines_3 rfl rfl cl_X5_7 rfl rfl (v_begin m n 11 (by omega) h.1) ?_
  refine j_aload0 7 dX5_shines_6 rfl ?_
  refine j_aload1 8 dX5_shines_7 rfl ?_
  refine j_iload2 9 dX5_shines_8 rfl ?_
  refine j_dy2f 12 dX5_shines_9 rfl rfl cu_X5_17_X2 rfl rfl (vl0_7 _ (n + 1) x w mk (h.psh [11]) (by omega)) ?_
  refine j_iconst 13 (v := 2) dX5_shines_12 rfl rfl ?_
  refine j_imul 14 dX5_shines_13 rfl ?_
  refine j_iret dX5_shines_14 rfl ?_
  exact ⟨rfl, rfl⟩
set_option maxRecDepth 100000 in
theorem vs0_8 (m : Mem) (n : Nat) (x w mk : Int32) (h : VS m n w mk) (hn : n + 2 ≤ 40) : JM l g 4 mX5_shines [rf g 8, rf g 58, .int x] m (RF (some (.int ((x + w) * 2))) (pC [11, 10] n m)) := by
  refine JM_of (ls := [some (rf g 8), some (rf g 58), some (.int x)]) pn_X5 rfl rfl ?_
  refine j_aload1 1 dX5_shines_0 rfl ?_
  refine j_bipush 3 (v := 11) dX5_shines_1 rfl rfl ?_
  refine j_vi1v 6 dX5_shines_3 rfl rfl cl_X5_7 rfl rfl (v_begin m n 11 (by omega) h.1) ?_
  refine j_aload0 7 dX5_shines_6 rfl ?_
  refine j_aload1 8 dX5_shines_7 rfl ?_
  refine j_iload2 9 dX5_shines_8 rfl ?_
  refine j_dy2f 12 dX5_shines_9 rfl rfl cu_X5_17_X4 rfl rfl (vl0_8 _ (n + 1) x w mk (h.psh [11]) (by omega)) ?_
  refine j_iconst 13 (v := 2) dX5_shines_12 rfl rfl ?_
  refine j_imul 14 dX5_shines_13 rfl ?_
  refine j_iret dX5_shines_14 rfl ?_
  exact ⟨rfl, rfl⟩
set_option maxRecDepth 100000 in
theorem vs1_4 (m : Mem) (n : Nat) (x w mk : Int32) (h : VS m n w mk) (hn : n + 4 ≤ 40) : JM l g 5 mX1_shines [rf g 4, rf g 58, .int x] m (RF (some (.int (((x + w) * 2) - (1 - mk)))) (pC [30, 11, 10, 12] n m)) := by
  refine JM_of (ls := [some (rf g 4), some (rf g 58), some (.int x)]) pn_X1 rfl rfl ?_
  refine j_aload1 1 dX1_shines_0 rfl ?_
  refine j_bipush 3 (v := 30) dX1_shines_1 rfl rfl ?_
  refine j_vi1v 6 dX1_shines_3 rfl rfl cl_X1_7 rfl rfl (v_begin m n 30 (by omega) h.1) ?_
  refine j_aload0 7 dX1_shines_6 rfl ?_
  refine j_aload1 8 dX1_shines_7 rfl ?_
  refine j_iload2 9 dX1_shines_8 rfl ?_
  refine j_su2f (ci := 1) 12 dX1_shines_9 rfl rfl cl_X1_13 rfl rfl rfl (vs0_4 _ (n + 1) x w mk (h.psh [30]) (by omega)) ?_
  refine j_aload0 13 dX1_shines_12 rfl ?_
  refine j_aload1 14 dX1_shines_13 rfl ?_
  refine j_iconst 15 (v := 1) dX1_shines_14 rfl rfl ?_
  refine j_dy2f 18 dX1_shines_15 rfl rfl cu_X1_17_X1 rfl rfl (vd0_4 _ (n + 3) 1 w mk (h.psh [30, 11, 10]) (by omega)) ?_
  refine j_isub 19 dX1_shines_18 rfl ?_
  refine j_iret dX1_shines_19 rfl ?_
  exact ⟨rfl, rfl⟩
set_option maxRecDepth 100000 in
theorem vs1_7 (m : Mem) (n : Nat) (x w mk : Int32) (h : VS m n w mk) (hn : n + 4 ≤ 40) : JM l g 5 mX1_shines [rf g 7, rf g 58, .int x] m (RF (some (.int (((x + w) * 2) - (1 - mk)))) (pC [30, 11, 10, 12] n m)) := by
  refine JM_of (ls := [some (rf g 7), some (rf g 58), some (.int x)]) pn_X1 rfl rfl ?_
  refine j_aload1 1 dX1_shines_0 rfl ?_
  refine j_bipush 3 (v := 30) dX1_shines_1 rfl rfl ?_
  refine j_vi1v 6 dX1_shines_3 rfl rfl cl_X1_7 rfl rfl (v_begin m n 30 (by omega) h.1) ?_
  refine j_aload0 7 dX1_shines_6 rfl ?_
  refine j_aload1 8 dX1_shines_7 rfl ?_
  refine j_iload2 9 dX1_shines_8 rfl ?_
  refine j_su2f (ci := 2) 12 dX1_shines_9 rfl rfl cl_X1_13 rfl rfl rfl (vs0_7 _ (n + 1) x w mk (h.psh [30]) (by omega)) ?_
  refine j_aload0 13 dX1_shines_12 rfl ?_
  refine j_aload1 14 dX1_shines_13 rfl ?_
  refine j_iconst 15 (v := 1) dX1_shines_14 rfl rfl ?_
  refine j_dy2f 18 dX1_shines_15 rfl rfl cu_X1_17_X2 rfl rfl (vd0_7 _ (n + 3) 1 w mk (h.psh [30, 11, 10]) (by omega)) ?_
  refine j_isub 19 dX1_shines_18 rfl ?_
  refine j_iret dX1_shines_19 rfl ?_
  exact ⟨rfl, rfl⟩
set_option maxRecDepth 100000 in
theorem vs2_7 (m : Mem) (n : Nat) (x w mk : Int32) (h : VS m n w mk) (hn : n + 5 ≤ 40) : JM l g 6 mX2_shines [rf g 7, rf g 58, .int x] m (RF (some (.int ((((x + 1) + w) * 2) - (1 - mk)))) (pC [60, 30, 11, 10, 12] n m)) := by
  refine JM_of (ls := [some (rf g 7), some (rf g 58), some (.int x)]) pn_X2 rfl rfl ?_
  refine j_aload1 1 dX2_shines_0 rfl ?_
  refine j_bipush 3 (v := 60) dX2_shines_1 rfl rfl ?_
  refine j_vi1v 6 dX2_shines_3 rfl rfl cl_X2_11 rfl rfl (v_begin m n 60 (by omega) h.1) ?_
  refine j_aload0 7 dX2_shines_6 rfl ?_
  refine j_aload1 8 dX2_shines_7 rfl ?_
  refine j_iload2 9 dX2_shines_8 rfl ?_
  refine j_iconst 10 (v := 1) dX2_shines_9 rfl rfl ?_
  refine j_iadd 11 dX2_shines_10 rfl ?_
  refine j_su2f (ci := 2) 14 dX2_shines_11 rfl rfl cl_X2_17 rfl rfl rfl (vs1_7 _ (n + 1) (x + 1) w mk (h.psh [60]) (by omega)) ?_
  refine j_iret dX2_shines_14 rfl ?_
  exact ⟨rfl, rfl⟩
set_option maxRecDepth 100000 in
theorem vt0_2 (m : Mem) (n : Nat) (x w mk : Int32) (h : VS m n w mk) (hn : n + 4 ≤ 40) : JM l g 7 mX5_tells [rf g 2, rf g 58, .int x] m (RF (some (.int (((x + w) * 2) ^^^ (x - mk)))) (pC [13, 11, 10, 12] n m)) := by
  refine JM_of (ls := [some (rf g 2), some (rf g 58), some (.int x)]) pn_X5 rfl rfl ?_
  refine j_aload1 1 dX5_tells_0 rfl ?_
  refine j_bipush 3 (v := 13) dX5_tells_1 rfl rfl ?_
  refine j_vi1v 6 dX5_tells_3 rfl rfl cl_X5_7 rfl rfl (v_begin m n 13 (by omega) h.1) ?_
  refine j_aload0 7 dX5_tells_6 rfl ?_
  refine j_aload1 8 dX5_tells_7 rfl ?_
  refine j_iload2 9 dX5_tells_8 rfl ?_
  refine j_dy2f 12 dX5_tells_9 rfl rfl cu_X5_26_X5 rfl rfl (vs0_2 _ (n + 1) x w mk (h.psh [13]) (by omega)) ?_
  refine j_aload0 13 dX5_tells_12 rfl ?_
  refine j_aload1 14 dX5_tells_13 rfl ?_
  refine j_iload2 15 dX5_tells_14 rfl ?_
  refine j_dy2f 18 dX5_tells_15 rfl rfl cu_X5_29_X5 rfl rfl (vd0_2 _ (n + 3) x w mk (h.psh [13, 11, 10]) (by omega)) ?_
  refine j_ixor 19 dX5_tells_18 rfl ?_
  refine j_iret dX5_tells_19 rfl ?_
  exact ⟨rfl, rfl⟩
set_option maxRecDepth 100000 in
theorem vt0_3 (m : Mem) (n : Nat) (x w mk : Int32) (h : VS m n w mk) (hn : n + 5 ≤ 40) : JM l g 7 mX5_tells [rf g 3, rf g 58, .int x] m (RF (some (.int ((((x + w) * 3) * 2) ^^^ (x - mk)))) (pC [13, 11, 20, 10, 12] n m)) := by
  refine JM_of (ls := [some (rf g 3), some (rf g 58), some (.int x)]) pn_X5 rfl rfl ?_
  refine j_aload1 1 dX5_tells_0 rfl ?_
  refine j_bipush 3 (v := 13) dX5_tells_1 rfl rfl ?_
  refine j_vi1v 6 dX5_tells_3 rfl rfl cl_X5_7 rfl rfl (v_begin m n 13 (by omega) h.1) ?_
  refine j_aload0 7 dX5_tells_6 rfl ?_
  refine j_aload1 8 dX5_tells_7 rfl ?_
  refine j_iload2 9 dX5_tells_8 rfl ?_
  refine j_dy2f 12 dX5_tells_9 rfl rfl cu_X5_26_X7 rfl rfl (vs0_3 _ (n + 1) x w mk (h.psh [13]) (by omega)) ?_
  refine j_aload0 13 dX5_tells_12 rfl ?_
  refine j_aload1 14 dX5_tells_13 rfl ?_
  refine j_iload2 15 dX5_tells_14 rfl ?_
  refine j_dy2f 18 dX5_tells_15 rfl rfl cu_X5_29_X7 rfl rfl (vd0_3 _ (n + 4) x w mk (h.psh [13, 11, 20, 10]) (by omega)) ?_
  refine j_ixor 19 dX5_tells_18 rfl ?_
  refine j_iret dX5_tells_19 rfl ?_
  exact ⟨rfl, rfl⟩
set_option maxRecDepth 100000 in
theorem vt0_4 (m : Mem) (n : Nat) (x w mk : Int32) (h : VS m n w mk) (hn : n + 6 ≤ 40) : JM l g 7 mX5_tells [rf g 4, rf g 58, .int x] m (RF (some (.int ((((x + w) * 2) - (1 - mk)) ^^^ (x - mk)))) (pC [13, 30, 11, 10, 12, 12] n m)) := by
  refine JM_of (ls := [some (rf g 4), some (rf g 58), some (.int x)]) pn_X5 rfl rfl ?_
  refine j_aload1 1 dX5_tells_0 rfl ?_
  refine j_bipush 3 (v := 13) dX5_tells_1 rfl rfl ?_
  refine j_vi1v 6 dX5_tells_3 rfl rfl cl_X5_7 rfl rfl (v_begin m n 13 (by omega) h.1) ?_
  refine j_aload0 7 dX5_tells_6 rfl ?_
  refine j_aload1 8 dX5_tells_7 rfl ?_
  refine j_iload2 9 dX5_tells_8 rfl ?_
  refine j_dy2f 12 dX5_tells_9 rfl rfl cu_X5_26_X1 rfl rfl (vs1_4 _ (n + 1) x w mk (h.psh [13]) (by omega)) ?_
  refine j_aload0 13 dX5_tells_12 rfl ?_
  refine j_aload1 14 dX5_tells_13 rfl ?_
  refine j_iload2 15 dX5_tells_14 rfl ?_
  refine j_dy2f 18 dX5_tells_15 rfl rfl cu_X5_29_X1 rfl rfl (vd0_4 _ (n + 5) x w mk (h.psh [13, 30, 11, 10, 12]) (by omega)) ?_
  refine j_ixor 19 dX5_tells_18 rfl ?_
  refine j_iret dX5_tells_19 rfl ?_
  exact ⟨rfl, rfl⟩
set_option maxRecDepth 100000 in
theorem vt0_5 (m : Mem) (n : Nat) (x w mk : Int32) (h : VS m n w mk) (hn : n + 5 ≤ 40) : JM l g 7 mX5_tells [rf g 5, rf g 58, .int x] m (RF (some (.int (((x + w) * 2) ^^^ (-(x - mk))))) (pC [13, 11, 10, 40, 12] n m)) := by
  refine JM_of (ls := [some (rf g 5), some (rf g 58), some (.int x)]) pn_X5 rfl rfl ?_
  refine j_aload1 1 dX5_tells_0 rfl ?_
  refine j_bipush 3 (v := 13) dX5_tells_1 rfl rfl ?_
  refine j_vi1v 6 dX5_tells_3 rfl rfl cl_X5_7 rfl rfl (v_begin m n 13 (by omega) h.1) ?_
  refine j_aload0 7 dX5_tells_6 rfl ?_
  refine j_aload1 8 dX5_tells_7 rfl ?_
  refine j_iload2 9 dX5_tells_8 rfl ?_
  refine j_dy2f 12 dX5_tells_9 rfl rfl cu_X5_26_X0 rfl rfl (vs0_5 _ (n + 1) x w mk (h.psh [13]) (by omega)) ?_
  refine j_aload0 13 dX5_tells_12 rfl ?_
  refine j_aload1 14 dX5_tells_13 rfl ?_
  refine j_iload2 15 dX5_tells_14 rfl ?_
  refine j_dy2f 18 dX5_tells_15 rfl rfl cu_X5_29_X0 rfl rfl (vd1_5 _ (n + 3) x w mk (h.psh [13, 11, 10]) (by omega)) ?_
  refine j_ixor 19 dX5_tells_18 rfl ?_
  refine j_iret dX5_tells_19 rfl ?_
  exact ⟨rfl, rfl⟩
set_option maxRecDepth 100000 in
theorem vt0_6 (m : Mem) (n : Nat) (x w mk : Int32) (h : VS m n w mk) (hn : n + 5 ≤ 40) : JM l g 7 mX5_tells [rf g 6, rf g 58, .int x] m (RF (some (.int ((((x + w) * 3) * 2) ^^^ (x - mk)))) (pC [13, 11, 20, 10, 12] n m)) := by
  refine JM_of (ls := [some (rf g 6), some (rf g 58), some (.int x)]) pn_X5 rfl rfl ?_
  refine j_aload1 1 dX5_tells_0 rfl ?_
  refine j_bipush 3 (v := 13) dX5_tells_1 rfl rfl ?_
  refine j_vi1v 6 dX5_tells_3 rfl rfl cl_X5_7 rfl rfl (v_begin m n 13 (by omega) h.1) ?_
  refine j_aload0 7 dX5_tells_6 rfl ?_
  refine j_aload1 8 dX5_tells_7 rfl ?_
  refine j_iload2 9 dX5_tells_8 rfl ?_
  refine j_dy2f 12 dX5_tells_9 rfl rfl cu_X5_26_X3 rfl rfl (vs0_6 _ (n + 1) x w mk (h.psh [13]) (by omega)) ?_
  refine j_aload0 13 dX5_tells_12 rfl ?_
  refine j_aload1 14 dX5_tells_13 rfl ?_
  refine j_iload2 15 dX5_tells_14 rfl ?_
  refine j_dy2f 18 dX5_tells_15 rfl rfl cu_X5_29_X3 rfl rfl (vd0_6 _ (n + 4) x w mk (h.psh [13, 11, 20, 10]) (by omega)) ?_
  refine j_ixor 19 dX5_tells_18 rfl ?_
  refine j_iret dX5_tells_19 rfl ?_
  exact ⟨rfl, rfl⟩
set_option maxRecDepth 100000 in
theorem vt0_7 (m : Mem) (n : Nat) (x w mk : Int32) (h : VS m n w mk) (hn : n + 7 ≤ 40) : JM l g 7 mX5_tells [rf g 7, rf g 58, .int x] m (RF (some (.int (((((x + 1) + w) * 2) - (1 - mk)) ^^^ (x - mk)))) (pC [13, 60, 30, 11, 10, 12, 12] n m)) := by
  refine JM_of (ls := [some (rf g 7), some (rf g 58), some (.int x)]) pn_X5 rfl rfl ?_
  refine j_aload1 1 dX5_tells_0 rfl ?_
  refine j_bipush 3 (v := 13) dX5_tells_1 rfl rfl ?_
  refine j_vi1v 6 dX5_tells_3 rfl rfl cl_X5_7 rfl rfl (v_begin m n 13 (by omega) h.1) ?_
  refine j_aload0 7 dX5_tells_6 rfl ?_
  refine j_aload1 8 dX5_tells_7 rfl ?_
  refine j_iload2 9 dX5_tells_8 rfl ?_
  refine j_dy2f 12 dX5_tells_9 rfl rfl cu_X5_26_X2 rfl rfl (vs2_7 _ (n + 1) x w mk (h.psh [13]) (by omega)) ?_
  refine j_aload0 13 dX5_tells_12 rfl ?_
  refine j_aload1 14 dX5_tells_13 rfl ?_
  refine j_iload2 15 dX5_tells_14 rfl ?_
  refine j_dy2f 18 dX5_tells_15 rfl rfl cu_X5_29_X2 rfl rfl (vd0_7 _ (n + 6) x w mk (h.psh [13, 60, 30, 11, 10, 12]) (by omega)) ?_
  refine j_ixor 19 dX5_tells_18 rfl ?_
  refine j_iret dX5_tells_19 rfl ?_
  exact ⟨rfl, rfl⟩
set_option maxRecDepth 100000 in
theorem vt0_8 (m : Mem) (n : Nat) (x w mk : Int32) (h : VS m n w mk) (hn : n + 6 ≤ 40) : JM l g 7 mX5_tells [rf g 8, rf g 58, .int x] m (RF (some (.int (((x + w) * 2) ^^^ ((-(x - mk)) ^^^ w)))) (pC [13, 11, 10, 70, 40, 12] n m)) := by
  refine JM_of (ls := [some (rf g 8), some (rf g 58), some (.int x)]) pn_X5 rfl rfl ?_
  refine j_aload1 1 dX5_tells_0 rfl ?_
  refine j_bipush 3 (v := 13) dX5_tells_1 rfl rfl ?_
  refine j_vi1v 6 dX5_tells_3 rfl rfl cl_X5_7 rfl rfl (v_begin m n 13 (by omega) h.1) ?_
  refine j_aload0 7 dX5_tells_6 rfl ?_
  refine j_aload1 8 dX5_tells_7 rfl ?_
  refine j_iload2 9 dX5_tells_8 rfl ?_
  refine j_dy2f 12 dX5_tells_9 rfl rfl cu_X5_26_X4 rfl rfl (vs0_8 _ (n + 1) x w mk (h.psh [13]) (by omega)) ?_
  refine j_aload0 13 dX5_tells_12 rfl ?_
  refine j_aload1 14 dX5_tells_13 rfl ?_
  refine j_iload2 15 dX5_tells_14 rfl ?_
  refine j_dy2f 18 dX5_tells_15 rfl rfl cu_X5_29_X4 rfl rfl (vd2_8 _ (n + 3) x w mk (h.psh [13, 11, 10]) (by omega)) ?_
  refine j_ixor 19 dX5_tells_18 rfl ?_
  refine j_iret dX5_tells_19 rfl ?_
  exact ⟨rfl, rfl⟩
set_option maxRecDepth 100000 in
theorem vt1_6 (m : Mem) (n : Nat) (x w mk : Int32) (h : VS m n w mk) (hn : n + 8 ≤ 40) : JM l g 8 mX3_tells [rf g 6, rf g 58, .int x] m (RF (some (.int (((((x + w) * 3) * 2) ^^^ (x - mk)) - ((2 + w) * 3)))) (pC [50, 13, 11, 20, 10, 12, 20, 10] n m)) := by
  refine JM_of (ls := [some (rf g 6), some (rf g 58), some (.int x)]) pn_X3 rfl rfl ?_
  refine j_aload1 1 dX3_tells_0 rfl ?_
  refine j_bipush 3 (v := 50) dX3_tells_1 rfl rfl ?_
  refine j_vi1v 6 dX3_tells_3 rfl rfl cl_X3_17 rfl rfl (v_begin m n 50 (by omega) h.1) ?_
  refine j_aload0 7 dX3_tells_6 rfl ?_
  refine j_aload1 8 dX3_tells_7 rfl ?_
  refine j_iload2 9 dX3_tells_8 rfl ?_
  refine j_sx2f (ci := 3) 12 dX3_tells_9 rfl rfl cx_X3_23 rfl rfl rfl (vt0_6 _ (n + 1) x w mk (h.psh [50]) (by omega)) ?_
  refine j_aload0 13 dX3_tells_12 rfl ?_
  refine j_aload1 14 dX3_tells_13 rfl ?_
  refine j_iconst 15 (v := 2) dX3_tells_14 rfl rfl ?_
  refine j_dy2f 18 dX3_tells_15 rfl rfl cu_X3_27_X3 rfl rfl (vl1_6 _ (n + 6) 2 w mk (h.psh [50, 13, 11, 20, 10, 12]) (by omega)) ?_
  refine j_isub 19 dX3_tells_18 rfl ?_
  refine j_iret dX3_tells_19 rfl ?_
  exact ⟨rfl, rfl⟩
set_option maxRecDepth 100000 in
theorem vt1_8 (m : Mem) (n : Nat) (x w mk : Int32) (h : VS m n w mk) (hn : n + 9 ≤ 40) : JM l g 8 mX4_tells [rf g 8, rf g 58, .int x] m (RF (some (.int (((x + w) * 2) - (((x + w) * 2) ^^^ ((-(x - mk)) ^^^ w))))) (pC [71, 11, 10, 13, 11, 10, 70, 40, 12] n m)) := by
  refine JM_of (ls := [some (rf g 8), some (rf g 58), some (.int x)]) pn_X4 rfl rfl ?_
  refine j_aload1 1 dX4_tells_0 rfl ?_
  refine j_bipush 3 (v := 71) dX4_tells_1 rfl rfl ?_
  refine j_vi1v 6 dX4_tells_3 rfl rfl cl_X4_24 rfl rfl (v_begin m n 71 (by omega) h.1) ?_
  refine j_aload0 7 dX4_tells_6 rfl ?_
  refine j_aload1 8 dX4_tells_7 rfl ?_
  refine j_iload2 9 dX4_tells_8 rfl ?_
  refine j_dy2f 12 dX4_tells_9 rfl rfl cu_X4_38_X4 rfl rfl (vs0_8 _ (n + 1) x w mk (h.psh [71]) (by omega)) ?_
  refine j_aload0 13 dX4_tells_12 rfl ?_
  refine j_aload1 14 dX4_tells_13 rfl ?_
  refine j_iload2 15 dX4_tells_14 rfl ?_
  refine j_sx2f (ci := 4) 18 dX4_tells_15 rfl rfl cx_X4_43 rfl rfl rfl (vt0_8 _ (n + 3) x w mk (h.psh [71, 11, 10]) (by omega)) ?_
  refine j_isub 19 dX4_tells_18 rfl ?_
  refine j_iret dX4_tells_19 rfl ?_
  exact ⟨rfl, rfl⟩
end O30
