/-! the reference: reads, text; the call text -/
def finF (n : Nat) (s : PT) : PT := if s.2.2 = true ∧ s.1 < n then flF s else s
theorem fin_g {t : Nat → Int32} {n u : Nat} (h : gdR t n u) : finF n (rdF t n u) = rdF t n u := if_neg (fun q => h.2 q.2)
theorem fin_b {t : Nat → Int32} {n u : Nat} (h : ¬ gdR t n u) : (finF n (rdF t n u)).2.2 = false ∧ (finF n (rdF t n u)).1 = (rdF t n u).1 := by
  unfold finF
  by_cases q : (rdF t n u).2.2 = true ∧ (rdF t n u).1 < n
  · rw [if_pos q]; exact ⟨rfl, rfl⟩
  · rw [if_neg q]
    refine ⟨?_, rfl⟩
    cases z : (rdF t n u).2.2 with
    | false => rfl
    | true => exact absurd ⟨z, fun y => q ⟨z, y⟩⟩ h
def txR (d : Nat → Int32) (u : Nat) (L : List Int32) : Nat → Int32 := fun k => if 110 + 50 * u ≤ k ∧ k < 110 + 50 * u + L.length then cdL L (k - (110 + 50 * u)) else if k = 88 + u then nI L.length else if k = 6 then 0 else d k
theorem tx_o {d : Nat → Int32} {u k : Nat} {L : List Int32} (h1 : ¬ (110 + 50 * u ≤ k ∧ k < 110 + 50 * u + L.length)) (h2 : k ≠ 88 + u) (h3 : k ≠ 6) : txR d u L k = d k := by
  unfold txR
  rw [if_neg h1, if_neg h2, if_neg h3]
theorem tx_6 {d : Nat → Int32} {u : Nat} {L : List Int32} : txR d u L 6 = 0 := by
  unfold txR
  rw [if_neg (by omega), if_neg (by omega), if_pos rfl]
theorem tx_n {d : Nat → Int32} {u : Nat} {L : List Int32} (hu : u ≤ 1) : txR d u L (88 + u) = nI L.length := by
  unfold txR
  rw [if_neg (by omega), if_pos rfl]
theorem tx_c {d : Nat → Int32} {u j : Nat} {L : List Int32} (h : j < L.length) : txR d u L (110 + 50 * u + j) = cdL L j := by
  unfold txR
  rw [if_pos (by omega), Nat.add_sub_cancel_left]
theorem WF_tx {d : Nat → Int32} {u : Nat} {L : List Int32} (w : WF d) (hu : u ≤ 1) (hL : L.length ≤ 50) (hw : wfL L) : WF (txR d u L) := by
  obtain ⟨w1, w2, w3, w4, w5, w6, w7, w8, w9, w10, w11, w12⟩ := w
  have o : ∀ j, j ≠ 6 → (j < 88 ∨ 210 ≤ j) → txR d u L j = d j := fun j h1 h2 => tx_o (by omega) (by omega) h1
  have tx : ∀ v, v ≤ 1 → TXok d v → TXok (txR d u L) v := fun v hv hx => by
    by_cases q : v = u
    · subst q
      exact ⟨L.length, hL, tx_n hu, wfC_congr (c := cdL L) (fun j hj => tx_c hj) hw⟩
    · obtain ⟨n, n1, n2, n3⟩ := hx
      exact ⟨n, n1, (tx_o (by omega) (by omega) (by omega)).trans n2, wfC_congr (fun j hj => tx_o (by omega) (by omega) (by omega)) n3⟩
  exact ⟨by rw [o 0 (by omega) (by omega)]; exact w1, by rw [o 2 (by omega) (by omega)]; exact w2, by rw [o 3 (by omega) (by omega)]; exact w3, by rw [o 4 (by omega) (by omega)]; exact w4, by rw [tx_6]; exact ⟨0, by decide, rfl⟩, by rw [o 7 (by omega) (by omega)]; exact w6, fun j hj => by rw [o _ (by omega) (by omega)]; exact w7 j hj, fun j hj => by rw [o _ (by omega) (by omega)]; exact w8 j hj, fun h hh => HWr_eq (fun r hr => o _ (by omega) (by omega)) (w9 h hh), tx 0 (by decide) w10, tx 1 (by decide) w11, fun j hj => by rw [o _ (by omega) (by omega)]; exact w12 j hj⟩
theorem LR_keep {m m' : Mem} {L u : Nat} {d e : Nat → Int32} (hw : TXok d u) (h : LR m L d u) (h3 : m' L 3 = m L 3) (h1 : m' L 1 = m L 1) (hc : ∀ j, j < 50 → m' (L + 1) j = m (L + 1) j) (hk : ∀ k, (k = 88 + u ∨ (110 + 50 * u ≤ k ∧ k < 160 + 50 * u)) → e k = d k) : LR m' L e u := by
  obtain ⟨a, b, c⟩ := h
  obtain ⟨n, n1, n2, n3⟩ := hw
  have e8 : e (88 + u) = d (88 + u) := hk _ (Or.inl rfl)
  refine ⟨by rw [h3, e8]; exact a, by rw [h1]; exact b, fun j hj => ?_⟩
  rw [e8] at hj
  have hj2 : j < 50 := by rw [n2, nI_clamp (by omega)] at hj; omega
  rw [hc j hj2, hk (110 + 50 * u + j) (by omega)]
  exact c j hj
section O38
variable {l : Launch} {g : Gv}
set_option maxRecDepth 100000 in
theorem c_reads_0 (m : Mem) (t : Nat → Int32) (n : Nat) (ht : ∀ j, j < 50 → m 69 (210 + j) = t j) (hn : n ≤ 50) : JM l g 48 mX12_reads [rf g 68, .int (nI 210), .int (nI n), .int 0] m (RS none (fun m' => RR 0 (rx0_0 m n) m' (finF n (rdF t n 0)))) := by
  refine JM_of (ls := [some (rf g 68), some (.int (nI 210)), some (.int (nI n)), some (.int 0)]) pn_X12 rfl rfl ?_
  have eb := rd_b t n 0 (by decide)
  refine j_aload0 1 dX12_reads_0 rfl ?_
  refine j_iload1 2 dX12_reads_1 rfl ?_
  refine j_putI 5 dX12_reads_2 rfl fp_X12_63 rfl rfl ?_
  refine j_aload0 6 dX12_reads_5 rfl ?_
  refine j_iconst 7 (v := 0) dX12_reads_6 rfl rfl ?_
  refine j_putI 10 dX12_reads_7 rfl fp_X12_53 rfl rfl ?_
  refine j_aload0 11 dX12_reads_10 rfl ?_
  refine j_iload2 12 dX12_reads_11 rfl ?_
  refine j_putI 15 dX12_reads_12 rfl fp_X12_57 rfl rfl ?_
  refine j_aload0 16 dX12_reads_15 rfl ?_
  refine j_iconst 17 (v := -1) dX12_reads_16 rfl rfl ?_
  refine j_putI 20 dX12_reads_17 rfl fp_X12_60 rfl rfl ?_
  refine j_aload0 21 dX12_reads_20 rfl ?_
  refine j_iconst 22 (v := 0) dX12_reads_21 rfl rfl ?_
  refine j_putI 25 dX12_reads_22 rfl fp_X12_100 rfl rfl ?_
  refine j_aload0 26 dX12_reads_25 rfl ?_
  refine j_iconst 27 (v := 0) dX12_reads_26 rfl rfl ?_
  refine j_putI 30 dX12_reads_27 rfl fp_X12_74 rfl rfl ?_
  refine j_aload0 31 dX12_reads_30 rfl ?_
  refine j_iload3 32 dX12_reads_31 rfl ?_
  refine j_iconst 33 (v := 1) dX12_reads_32 rfl rfl ?_
  refine j_cmp_ne 40 36 dX12_reads_33 rfl rfl (fun h33 => ?_) (fun h33 => absurd h33 (by decide))
  refine j_iconst 41 (v := 0) dX12_reads_40 rfl rfl ?_
  refine j_putZ 44 (by first | exact Or.inl rfl | exact Or.inr rfl) dX12_reads_41 rfl fp_X12_70 rfl rfl ?_
  refine j_aload0 45 dX12_reads_44 rfl ?_
  refine j_vi0w 48 dX12_reads_45 rfl rfl cl_X12_106 rfl rfl (KEall_0 n (rx0_0 m n) t (RX0_0 m t n ht hn) (rx0_0 m n) (0, [], true) (RR0_0 m n) rfl (Nat.zero_le _) (Nat.zero_le _)) (fun m45 q45 => ?_)
  have q45 : RR 0 (rx0_0 m n) m45 (rdF t n 0) := q45
  obtain ⟨e6, e8, -, -, -, hs⟩ := id q45
  have e7 : m45 68 7 = nI n := (hs 7 (by decide) (by decide) (by decide) (by decide)).trans (RX0_0 m t n ht hn).2.1
  refine j_aload0 49 dX12_reads_48 rfl ?_
  refine j_getI 52 dX12_reads_49 rfl fl_X12_60 rfl rfl ?_
  refine j_if_ge 70 55 dX12_reads_52 rfl rfl (fun h52 => ?_) (fun h52 => ?_)
  · refine j_vret dX12_reads_70 rfl ?_
    first | exact ⟨rfl, by unfold finF; rw [if_pos (And.intro (Classical.byContradiction (fun z => by rw [e8, if_neg z] at h52; exact h52 (nI_pos' (by omega)))) (Nat.not_le.mp (fun z => h63 (nI_le z (by omega)))))]; exact q67⟩ | exact ⟨rfl, by unfold finF; rw [if_neg (fun z => absurd h63 (nI_ge z.2 (by omega)))]; exact q45⟩ | exact ⟨rfl, by unfold finF; rw [if_neg (fun z => by rw [e8, if_pos z.1] at h52; exact absurd h52 (by decide))]; exact q45⟩
  · refine j_aload0 56 dX12_reads_55 rfl ?_
    refine j_getI 59 dX12_reads_56 rfl fl_X12_53 rfl rfl ?_
    refine j_top e6 ?_
    refine j_aload0 60 dX12_reads_59 rfl ?_
    refine j_getI 63 dX12_reads_60 rfl fl_X12_57 rfl rfl ?_
    refine j_top e7 ?_
    refine j_cmp_ge 70 66 dX12_reads_63 rfl rfl (fun h63 => ?_) (fun h63 => ?_)
    · refine j_vret dX12_reads_70 rfl ?_
      first | exact ⟨rfl, by unfold finF; rw [if_pos (And.intro (Classical.byContradiction (fun z => by rw [e8, if_neg z] at h52; exact h52 (nI_pos' (by omega)))) (Nat.not_le.mp (fun z => h63 (nI_le z (by omega)))))]; exact q67⟩ | exact ⟨rfl, by unfold finF; rw [if_neg (fun z => absurd h63 (nI_ge z.2 (by omega)))]; exact q45⟩ | exact ⟨rfl, by unfold finF; rw [if_neg (fun z => by rw [e8, if_pos z.1] at h52; exact absurd h52 (by decide))]; exact q45⟩
    · refine j_aload0 67 dX12_reads_66 rfl ?_
      refine j_vi0w 70 dX12_reads_67 rfl rfl cl_X12_103 rfl rfl (r_wrong m45 _ 0 (rdF t n 0) q45 (by omega)) (fun m67 q67 => ?_)
      refine j_vret dX12_reads_70 rfl ?_
      first | exact ⟨rfl, by unfold finF; rw [if_pos (And.intro (Classical.byContradiction (fun z => by rw [e8, if_neg z] at h52; exact h52 (nI_pos' (by omega)))) (Nat.not_le.mp (fun z => h63 (nI_le z (by omega)))))]; exact q67⟩ | exact ⟨rfl, by unfold finF; rw [if_neg (fun z => absurd h63 (nI_ge z.2 (by omega)))]; exact q45⟩ | exact ⟨rfl, by unfold finF; rw [if_neg (fun z => by rw [e8, if_pos z.1] at h52; exact absurd h52 (by decide))]; exact q45⟩
set_option maxRecDepth 100000 in
theorem lm_text_0 {Q : Option Value → Mem → Prop} (K : Nat) (hK : K ≤ 50) (x2 : Int32) (m0 : Mem) (e13 : m0 68 13 = nI K) (kk : Q (some (.int 1)) (upR m0 69 (fun q => if 110 + 50 * 0 ≤ q ∧ q < 110 + 50 * 0 + K then m0 74 (q - (110 + 50 * 0)) else m0 69 q))) : ∀ (k i : Nat), i + k = K → J l g 49 mX12_text 71 [some (rf g 68), some (.int 0), some (.int x2), some (.int (nI i))] [] (upR m0 69 (fun q => if 110 + 50 * 0 ≤ q ∧ q < 110 + 50 * 0 + i then m0 74 (q - (110 + 50 * 0)) else m0 69 q)) Q := by
  intro k
  induction k with
  | zero =>
    intro i e
    have e : i = K := by omega
    subst e
    have r13 : upR m0 69 (fun q => if 110 + 50 * 0 ≤ q ∧ q < 110 + 50 * 0 + i then m0 74 (q - (110 + 50 * 0)) else m0 69 q) 68 13 = nI i := (congrFun (upR_n (by decide)) _).trans e13
    refine j_iload3 72 dX12_text_71 rfl ?_
    refine j_aload0 73 dX12_text_72 rfl ?_
    refine j_getI 76 dX12_text_73 rfl fl_X12_74 rfl rfl ?_
    refine j_top r13 ?_
    refine j_cmp_ge 105 79 dX12_text_76 rfl rfl (fun h76 => ?_) (fun h76 => absurd (Int32.le_refl _) h76)
    refine j_iconst 106 (v := 1) dX12_text_105 rfl rfl ?_
    refine j_iret dX12_text_106 rfl ?_
    exact kk
  | succ k ih =>
    intro i e
    have e2 : nI i + 1 = nI (i + 1) := nI_1 i
    have r13 : upR m0 69 (fun q => if 110 + 50 * 0 ≤ q ∧ q < 110 + 50 * 0 + i then m0 74 (q - (110 + 50 * 0)) else m0 69 q) 68 13 = nI K := (congrFun (upR_n (by decide)) _).trans e13
    have r : upR m0 69 (fun q => if 110 + 50 * 0 ≤ q ∧ q < 110 + 50 * 0 + i then m0 74 (q - (110 + 50 * 0)) else m0 69 q) 74 i = m0 74 i := congrFun (upR_n (by decide)) _
    refine j_iload3 72 dX12_text_71 rfl ?_
    refine j_aload0 73 dX12_text_72 rfl ?_
    refine j_getI 76 dX12_text_73 rfl fl_X12_74 rfl rfl ?_
    refine j_top r13 ?_
    refine j_cmp_ge 105 79 dX12_text_76 rfl rfl (fun h76 => absurd h76 (nI_ge (a := i) (b := K) (by omega) (by omega))) (fun h76 => ?_)
    refine j_aload0 80 dX12_text_79 rfl ?_
    refine j_getR 83 dX12_text_80 rfl fl_X12_7 rfl rfl ?_
    refine j_bipush 85 (v := nI 110) dX12_text_83 rfl rfl ?_
    refine j_bipush 87 (v := nI 50) dX12_text_85 rfl rfl ?_
    refine j_iload1 88 dX12_text_87 rfl ?_
    refine j_top (z := nI 0) rfl ?_
    refine j_imulN 89 dX12_text_88 rfl ?_
    refine j_iaddN 90 dX12_text_89 rfl ?_
    refine j_iload3 91 dX12_text_90 rfl ?_
    refine j_iaddN 92 dX12_text_91 rfl ?_
    refine j_aload0 93 dX12_text_92 rfl ?_
    refine j_getR 96 dX12_text_93 rfl fl_X12_25 rfl rfl ?_
    refine j_iload3 97 dX12_text_96 rfl ?_
    refine j_iald 98 _ rfl (show i < 60 by omega) dX12_text_97 rfl rfl ?_
    refine j_top r ?_
    refine j_iast 99 (110 + 50 * 0 + i) rfl (show 110 + 50 * 0 + i < 260 by omega) dX12_text_98 rfl rfl ?_
    refine j_iinc3 102 (1) dX12_text_99 rfl rfl rfl rfl ?_
    refine j_goto 71 dX12_text_102 rfl ?_
    rw [e2]
    refine j_mem (upR_nx2 (b0 := 110 + 50 * 0) (f := m0 74) (h := m0 69)) ?_
    exact ih (i + 1) (by omega)
set_option maxRecDepth 100000 in
theorem p_textG_0 (m : Mem) (t : Nat → Int32) (n : Nat) (ht : ∀ j, j < 50 → m 69 (210 + j) = t j) (hn : n ≤ 50) (e6 : m 69 6 = nI n) (hg : gdR t n 0) : JM l g 49 mX12_text [rf g 68, .int 0] m (RS (some (.int 1)) (fun m' => m' 69 = txR (m 69) 0 (rdF t n 0).2.1 ∧ (∀ b, b ≠ 68 → b ≠ 69 → b ≠ 74 → m' b = m b) ∧ m' 68 3 = m 68 3 ∧ m' 68 16 = m 68 16)) := by
  refine JM_of (ls := [some (rf g 68), some (.int 0), none, none]) pn_X12 rfl rfl ?_
  have eb := rd_b t n 0 (by decide)
  have ht2 : ∀ j, j < 50 → up2 m 69 6 0 69 (210 + j) = t j := fun j hj => by rw [up2_k (by omega)]; exact ht j hj
  refine j_iload1 1 dX12_text_0 rfl ?_
  refine j_i2l 2 dX12_text_1 rfl ?_
  refine j_lconst 3 (v := 0) dX12_text_2 rfl rfl ?_
  refine j_lconst 4 (v := 1) dX12_text_3 rfl rfl ?_
  refine j_st3f 7 dX12_text_4 rfl rfl cl_X12_47 rfl (c_in m _ 0 1) ?_
  refine j_if_ne_bz 16 10 dX12_text_7 rfl rfl (fun h7 => ?_) (fun h7 => absurd (by decide) h7)
  refine j_aload0 17 dX12_text_16 rfl ?_
  refine j_getR 20 dX12_text_17 rfl fl_X12_7 rfl rfl ?_
  refine j_bipush 22 (v := 6) dX12_text_20 rfl rfl ?_
  refine j_iald 23 6 rfl (by first | assumption | decide | omega) dX12_text_22 rfl rfl ?_
  refine j_top e6 ?_
  refine j_istore2 24 dX12_text_23 rfl rfl rfl ?_
  refine j_aload0 25 dX12_text_24 rfl ?_
  refine j_getR 28 dX12_text_25 rfl fl_X12_7 rfl rfl ?_
  refine j_bipush 30 (v := nI 6) dX12_text_28 rfl rfl ?_
  refine j_iconst 31 (v := 0) dX12_text_30 rfl rfl ?_
  refine j_iast 32 6 rfl (by decide) dX12_text_31 rfl rfl ?_
  refine j_aload0 33 dX12_text_32 rfl ?_
  refine j_sipush 36 (v := nI 210) dX12_text_33 rfl rfl ?_
  refine j_iload2 37 dX12_text_36 rfl ?_
  refine j_iload1 38 dX12_text_37 rfl ?_
  refine j_vi3w 41 dX12_text_38 rfl rfl cl_X12_131 rfl rfl (c_reads_0 (up2 m 69 6 0) t n ht2 hn) (fun m38 q38 => ?_)
  rw [fin_g hg] at q38
  obtain ⟨-, e8, -, hc, ho, hs⟩ := q38
  have e8 : m38 68 8 = -1 := e8.trans (if_pos hg.1)
  obtain ⟨c1, c2⟩ := hc hg.1
  have r69 : m38 69 = up2 m 69 6 0 69 := (ho 69 (by decide) (by decide)).trans (by unfold rx0_0; rw [up2_r (by decide), up2_r (by decide), up2_r (by decide), up2_r (by decide), up2_r (by decide), up2_r (by decide), up2_r (by decide)])
  refine j_aload0 42 dX12_text_41 rfl ?_
  refine j_getI 45 dX12_text_42 rfl fl_X12_60 rfl rfl ?_
  refine j_top e8 ?_
  refine j_if_lt 56 48 dX12_text_45 rfl rfl (fun h45 => ?_) (fun h45 => absurd (by decide) h45)
  refine j_aload0 57 dX12_text_56 rfl ?_
  refine j_getR 60 dX12_text_57 rfl fl_X12_7 rfl rfl ?_
  refine j_bipush 62 (v := nI 88) dX12_text_60 rfl rfl ?_
  refine j_iload1 63 dX12_text_62 rfl ?_
  refine j_top (z := nI 0) rfl ?_
  refine j_iaddN 64 dX12_text_63 rfl ?_
  refine j_aload0 65 dX12_text_64 rfl ?_
  refine j_getI 68 dX12_text_65 rfl fl_X12_74 rfl rfl ?_
  refine j_top c1 ?_
  refine j_iast 69 (88 + 0) rfl (by decide) dX12_text_68 rfl rfl ?_
  refine j_iconst 70 (v := 0) dX12_text_69 rfl rfl ?_
  refine j_istore3 71 dX12_text_70 rfl rfl rfl ?_
  have f13 : up2 m38 69 (88 + 0) (nI (rdF t n 0).2.1.length) 68 13 = nI (rdF t n 0).2.1.length := (congrFun (up2_r (by decide)) _).trans c1
  refine j_mem (upR_n0 (m := up2 m38 69 (88 + 0) (nI (rdF t n 0).2.1.length)) (c := 69) (f := fun q => if 110 + 50 * 0 ≤ q ∧ q < 110 + 50 * 0 + 0 then up2 m38 69 (88 + 0) (nI (rdF t n 0).2.1.length) 74 (q - (110 + 50 * 0)) else up2 m38 69 (88 + 0) (nI (rdF t n 0).2.1.length) 69 q) (fun q => if_neg (by omega))).symm ?_
  refine lm_text_0 (rdF t n 0).2.1.length (by omega) _ (up2 m38 69 (88 + 0) (nI (rdF t n 0).2.1.length)) f13 ⟨rfl, ?_, fun b b1 b2 b3 => ?_, ?_, ?_⟩ (rdF t n 0).2.1.length 0 (Nat.zero_add _)
  · rw [upR_s]
    funext q
    unfold txR
    by_cases z : 110 + 50 * 0 ≤ q ∧ q < 110 + 50 * 0 + (rdF t n 0).2.1.length
    · rw [if_pos z, if_pos z, up2_a (by decide)]
      exact c2 _ (by omega)
    · rw [if_neg z, if_neg z, up2_cell, r69, up2_cell]
  · rw [upR_n b2, up2_r b2, ho b b1 b3]
    unfold rx0_0
    rw [up2_r b1, up2_r b1, up2_r b1, up2_r b1, up2_r b1, up2_r b1, up2_r b1, up2_r b2]
  · rw [upR_n (by decide), up2_r (by decide), hs 3 (by decide) (by decide) (by decide) (by decide)]
    unfold rx0_0
    rw [up2_k (by decide), up2_k (by decide), up2_k (by decide), up2_k (by decide), up2_k (by decide), up2_k (by decide), up2_k (by decide), up2_r (by decide)]
  · rw [upR_n (by decide), up2_r (by decide), hs 16 (by decide) (by decide) (by decide) (by decide)]
    unfold rx0_0
    rw [up2_k (by decide), up2_k (by decide), up2_k (by decide), up2_k (by decide), up2_k (by decide), up2_k (by decide), up2_k (by decide), up2_r (by decide)]
set_option maxRecDepth 100000 in
theorem p_textB_0 (m : Mem) (t : Nat → Int32) (n : Nat) (ht : ∀ j, j < 50 → m 69 (210 + j) = t j) (hn : n ≤ 50) (e6 : m 69 6 = nI n) (hg : ¬ gdR t n 0) : JM l g 49 mX12_text [rf g 68, .int 0] m (RS (some (.int (-10 - nI (rdF t n 0).1))) (fun m' => m' 69 = upd1 (m 69) 6 0 ∧ (∀ b, b ≠ 68 → b ≠ 69 → b ≠ 74 → m' b = m b) ∧ m' 68 3 = m 68 3 ∧ m' 68 16 = m 68 16)) := by
  refine JM_of (ls := [some (rf g 68), some (.int 0), none, none]) pn_X12 rfl rfl ?_
  have eb := rd_b t n 0 (by decide)
  have ht2 : ∀ j, j < 50 → up2 m 69 6 0 69 (210 + j) = t j := fun j hj => by rw [up2_k (by omega)]; exact ht j hj
  refine j_iload1 1 dX12_text_0 rfl ?_
  refine j_i2l 2 dX12_text_1 rfl ?_
  refine j_lconst 3 (v := 0) dX12_text_2 rfl rfl ?_
  refine j_lconst 4 (v := 1) dX12_text_3 rfl rfl ?_
  refine j_st3f 7 dX12_text_4 rfl rfl cl_X12_47 rfl (c_in m _ 0 1) ?_
  refine j_if_ne_bz 16 10 dX12_text_7 rfl rfl (fun h7 => ?_) (fun h7 => absurd (by decide) h7)
  refine j_aload0 17 dX12_text_16 rfl ?_
  refine j_getR 20 dX12_text_17 rfl fl_X12_7 rfl rfl ?_
  refine j_bipush 22 (v := 6) dX12_text_20 rfl rfl ?_
  refine j_iald 23 6 rfl (by first | assumption | decide | omega) dX12_text_22 rfl rfl ?_
  refine j_top e6 ?_
  refine j_istore2 24 dX12_text_23 rfl rfl rfl ?_
  refine j_aload0 25 dX12_text_24 rfl ?_
  refine j_getR 28 dX12_text_25 rfl fl_X12_7 rfl rfl ?_
  refine j_bipush 30 (v := nI 6) dX12_text_28 rfl rfl ?_
  refine j_iconst 31 (v := 0) dX12_text_30 rfl rfl ?_
  refine j_iast 32 6 rfl (by decide) dX12_text_31 rfl rfl ?_
  refine j_aload0 33 dX12_text_32 rfl ?_
  refine j_sipush 36 (v := nI 210) dX12_text_33 rfl rfl ?_
  refine j_iload2 37 dX12_text_36 rfl ?_
  refine j_iload1 38 dX12_text_37 rfl ?_
  refine j_vi3w 41 dX12_text_38 rfl rfl cl_X12_131 rfl rfl (c_reads_0 (up2 m 69 6 0) t n ht2 hn) (fun m38 q38 => ?_)
  obtain ⟨-, e8, -, -, ho, hs⟩ := q38
  have fb := fin_b hg
  have e8 : m38 68 8 = nI (rdF t n 0).1 := by rw [e8, fb.1, fb.2]; rfl
  refine j_aload0 42 dX12_text_41 rfl ?_
  refine j_getI 45 dX12_text_42 rfl fl_X12_60 rfl rfl ?_
  refine j_top e8 ?_
  refine j_if_lt 56 48 dX12_text_45 rfl rfl (fun h45 => absurd h45 (nI_pos (by omega))) (fun h45 => ?_)
  refine j_bipush 50 (v := -10) dX12_text_48 rfl rfl ?_
  refine j_aload0 51 dX12_text_50 rfl ?_
  refine j_getI 54 dX12_text_51 rfl fl_X12_60 rfl rfl ?_
  refine j_top e8 ?_
  refine j_isub 55 dX12_text_54 rfl ?_
  refine j_iret dX12_text_55 rfl ?_
  refine ⟨rfl, ?_, fun b b1 b2 b3 => ?_, ?_, ?_⟩
  · rw [ho 69 (by decide) (by decide)]
    unfold rx0_0
    rw [up2_r (by decide), up2_r (by decide), up2_r (by decide), up2_r (by decide), up2_r (by decide), up2_r (by decide), up2_r (by decide)]
    exact up2_row69
  · rw [ho b b1 b3]
    unfold rx0_0
    rw [up2_r b1, up2_r b1, up2_r b1, up2_r b1, up2_r b1, up2_r b1, up2_r b1, up2_r b2]
  · rw [hs 3 (by decide) (by decide) (by decide) (by decide)]
    unfold rx0_0
    rw [up2_k (by decide), up2_k (by decide), up2_k (by decide), up2_k (by decide), up2_k (by decide), up2_k (by decide), up2_k (by decide), up2_r (by decide)]
  · rw [hs 16 (by decide) (by decide) (by decide) (by decide)]
    unfold rx0_0
    rw [up2_k (by decide), up2_k (by decide), up2_k (by decide), up2_k (by decide), up2_k (by decide), up2_k (by decide), up2_k (by decide), up2_r (by decide)]
set_option maxRecDepth 100000 in
theorem c_reads_1 (m : Mem) (t : Nat → Int32) (n : Nat) (ht : ∀ j, j < 50 → m 69 (210 + j) = t j) (hn : n ≤ 50) : JM l g 48 mX12_reads [rf g 68, .int (nI 210), .int (nI n), .int 1] m (RS none (fun m' => RR 0 (rx0_1 m n) m' (finF n (rdF t n 1)))) := by
  refine JM_of (ls := [some (rf g 68), some (.int (nI 210)), some (.int (nI n)), some (.int 1)]) pn_X12 rfl rfl ?_
  have eb := rd_b t n 1 (by decide)
  refine j_aload0 1 dX12_reads_0 rfl ?_
  refine j_iload1 2 dX12_reads_1 rfl ?_
  refine j_putI 5 dX12_reads_2 rfl fp_X12_63 rfl rfl ?_
  refine j_aload0 6 dX12_reads_5 rfl ?_
  refine j_iconst 7 (v := 0) dX12_reads_6 rfl rfl ?_
  refine j_putI 10 dX12_reads_7 rfl fp_X12_53 rfl rfl ?_
  refine j_aload0 11 dX12_reads_10 rfl ?_
  refine j_iload2 12 dX12_reads_11 rfl ?_
  refine j_putI 15 dX12_reads_12 rfl fp_X12_57 rfl rfl ?_
  refine j_aload0 16 dX12_reads_15 rfl ?_
  refine j_iconst 17 (v := -1) dX12_reads_16 rfl rfl ?_
  refine j_putI 20 dX12_reads_17 rfl fp_X12_60 rfl rfl ?_
  refine j_aload0 21 dX12_reads_20 rfl ?_
  refine j_iconst 22 (v := 0) dX12_reads_21 rfl rfl ?_
  refine j_putI 25 dX12_reads_22 rfl fp_X12_100 rfl rfl ?_
  refine j_aload0 26 dX12_reads_25 rfl ?_
  refine j_iconst 27 (v := 0) dX12_reads_26 rfl rfl ?_
  refine j_putI 30 dX12_reads_27 rfl fp_X12_74 rfl rfl ?_
  refine j_aload0 31 dX12_reads_30 rfl ?_
  refine j_iload3 32 dX12_reads_31 rfl ?_
  refine j_iconst 33 (v := 1) dX12_reads_32 rfl rfl ?_
  refine j_cmp_ne 40 36 dX12_reads_33 rfl rfl (fun h33 => absurd h33 (fun q => q rfl)) (fun h33 => ?_)
  refine j_iconst 37 (v := 1) dX12_reads_36 rfl rfl ?_
  refine j_goto 41 dX12_reads_37 rfl ?_
  refine j_putZ 44 (by first | exact Or.inl rfl | exact Or.inr rfl) dX12_reads_41 rfl fp_X12_70 rfl rfl ?_
  refine j_aload0 45 dX12_reads_44 rfl ?_
  refine j_vi0w 48 dX12_reads_45 rfl rfl cl_X12_106 rfl rfl (KEall_1 n (rx0_1 m n) t (RX0_1 m t n ht hn) (rx0_1 m n) (0, [], true) (RR0_1 m n) rfl (Nat.zero_le _) (Nat.zero_le _)) (fun m45 q45 => ?_)
  have q45 : RR 0 (rx0_1 m n) m45 (rdF t n 1) := q45
  obtain ⟨e6, e8, -, -, -, hs⟩ := id q45
  have e7 : m45 68 7 = nI n := (hs 7 (by decide) (by decide) (by decide) (by decide)).trans (RX0_1 m t n ht hn).2.1
  refine j_aload0 49 dX12_reads_48 rfl ?_
  refine j_getI 52 dX12_reads_49 rfl fl_X12_60 rfl rfl ?_
  refine j_if_ge 70 55 dX12_reads_52 rfl rfl (fun h52 => ?_) (fun h52 => ?_)
  · refine j_vret dX12_reads_70 rfl ?_
    first | exact ⟨rfl, by unfold finF; rw [if_pos (And.intro (Classical.byContradiction (fun z => by rw [e8, if_neg z] at h52; exact h52 (nI_pos' (by omega)))) (Nat.not_le.mp (fun z => h63 (nI_le z (by omega)))))]; exact q67⟩ | exact ⟨rfl, by unfold finF; rw [if_neg (fun z => absurd h63 (nI_ge z.2 (by omega)))]; exact q45⟩ | exact ⟨rfl, by unfold finF; rw [if_neg (fun z => by rw [e8, if_pos z.1] at h52; exact absurd h52 (by decide))]; exact q45⟩
  · refine j_aload0 56 dX12_reads_55 rfl ?_
    refine j_getI 59 dX12_reads_56 rfl fl_X12_53 rfl rfl ?_
    refine j_top e6 ?_
    refine j_aload0 60 dX12_reads_59 rfl ?_
    refine j_getI 63 dX12_reads_60 rfl fl_X12_57 rfl rfl ?_
    refine j_top e7 ?_
    refine j_cmp_ge 70 66 dX12_reads_63 rfl rfl (fun h63 => ?_) (fun h63 => ?_)
    · refine j_vret dX12_reads_70 rfl ?_
      first | exact ⟨rfl, by unfold finF; rw [if_pos (And.intro (Classical.byContradiction (fun z => by rw [e8, if_neg z] at h52; exact h52 (nI_pos' (by omega)))) (Nat.not_le.mp (fun z => h63 (nI_le z (by omega)))))]; exact q67⟩ | exact ⟨rfl, by unfold finF; rw [if_neg (fun z => absurd h63 (nI_ge z.2 (by omega)))]; exact q45⟩ | exact ⟨rfl, by unfold finF; rw [if_neg (fun z => by rw [e8, if_pos z.1] at h52; exact absurd h52 (by decide))]; exact q45⟩
    · refine j_aload0 67 dX12_reads_66 rfl ?_
      refine j_vi0w 70 dX12_reads_67 rfl rfl cl_X12_103 rfl rfl (r_wrong m45 _ 0 (rdF t n 1) q45 (by omega)) (fun m67 q67 => ?_)
      refine j_vret dX12_reads_70 rfl ?_
      first | exact ⟨rfl, by unfold finF; rw [if_pos (And.intro (Classical.byContradiction (fun z => by rw [e8, if_neg z] at h52; exact h52 (nI_pos' (by omega)))) (Nat.not_le.mp (fun z => h63 (nI_le z (by omega)))))]; exact q67⟩ | exact ⟨rfl, by unfold finF; rw [if_neg (fun z => absurd h63 (nI_ge z.2 (by omega)))]; exact q45⟩ | exact ⟨rfl, by unfold finF; rw [if_neg (fun z => by rw [e8, if_pos z.1] at h52; exact absurd h52 (by decide))]; exact q45⟩
set_option maxRecDepth 100000 in
theorem lm_text_1 {Q : Option Value → Mem → Prop} (K : Nat) (hK : K ≤ 50) (x2 : Int32) (m0 : Mem) (e13 : m0 68 13 = nI K) (kk : Q (some (.int 1)) (upR m0 69 (fun q => if 110 + 50 * 1 ≤ q ∧ q < 110 + 50 * 1 + K then m0 74 (q - (110 + 50 * 1)) else m0 69 q))) : ∀ (k i : Nat), i + k = K → J l g 49 mX12_text 71 [some (rf g 68), some (.int 1), some (.int x2), some (.int (nI i))] [] (upR m0 69 (fun q => if 110 + 50 * 1 ≤ q ∧ q < 110 + 50 * 1 + i then m0 74 (q - (110 + 50 * 1)) else m0 69 q)) Q := by
  intro k
  induction k with
  | zero =>
    intro i e
    have e : i = K := by omega
    subst e
    have r13 : upR m0 69 (fun q => if 110 + 50 * 1 ≤ q ∧ q < 110 + 50 * 1 + i then m0 74 (q - (110 + 50 * 1)) else m0 69 q) 68 13 = nI i := (congrFun (upR_n (by decide)) _).trans e13
    refine j_iload3 72 dX12_text_71 rfl ?_
    refine j_aload0 73 dX12_text_72 rfl ?_
    refine j_getI 76 dX12_text_73 rfl fl_X12_74 rfl rfl ?_
    refine j_top r13 ?_
    refine j_cmp_ge 105 79 dX12_text_76 rfl rfl (fun h76 => ?_) (fun h76 => absurd (Int32.le_refl _) h76)
    refine j_iconst 106 (v := 1) dX12_text_105 rfl rfl ?_
    refine j_iret dX12_text_106 rfl ?_
    exact kk
  | succ k ih =>
    intro i e
    have e2 : nI i + 1 = nI (i + 1) := nI_1 i
    have r13 : upR m0 69 (fun q => if 110 + 50 * 1 ≤ q ∧ q < 110 + 50 * 1 + i then m0 74 (q - (110 + 50 * 1)) else m0 69 q) 68 13 = nI K := (congrFun (upR_n (by decide)) _).trans e13
    have r : upR m0 69 (fun q => if 110 + 50 * 1 ≤ q ∧ q < 110 + 50 * 1 + i then m0 74 (q - (110 + 50 * 1)) else m0 69 q) 74 i = m0 74 i := congrFun (upR_n (by decide)) _
    refine j_iload3 72 dX12_text_71 rfl ?_
    refine j_aload0 73 dX12_text_72 rfl ?_
    refine j_getI 76 dX12_text_73 rfl fl_X12_74 rfl rfl ?_
    refine j_top r13 ?_
    refine j_cmp_ge 105 79 dX12_text_76 rfl rfl (fun h76 => absurd h76 (nI_ge (a := i) (b := K) (by omega) (by omega))) (fun h76 => ?_)
    refine j_aload0 80 dX12_text_79 rfl ?_
    refine j_getR 83 dX12_text_80 rfl fl_X12_7 rfl rfl ?_
    refine j_bipush 85 (v := nI 110) dX12_text_83 rfl rfl ?_
    refine j_bipush 87 (v := nI 50) dX12_text_85 rfl rfl ?_
    refine j_iload1 88 dX12_text_87 rfl ?_
    refine j_top (z := nI 1) rfl ?_
    refine j_imulN 89 dX12_text_88 rfl ?_
    refine j_iaddN 90 dX12_text_89 rfl ?_
    refine j_iload3 91 dX12_text_90 rfl ?_
    refine j_iaddN 92 dX12_text_91 rfl ?_
    refine j_aload0 93 dX12_text_92 rfl ?_
    refine j_getR 96 dX12_text_93 rfl fl_X12_25 rfl rfl ?_
    refine j_iload3 97 dX12_text_96 rfl ?_
    refine j_iald 98 _ rfl (show i < 60 by omega) dX12_text_97 rfl rfl ?_
    refine j_top r ?_
    refine j_iast 99 (110 + 50 * 1 + i) rfl (show 110 + 50 * 1 + i < 260 by omega) dX12_text_98 rfl rfl ?_
    refine j_iinc3 102 (1) dX12_text_99 rfl rfl rfl rfl ?_
    refine j_goto 71 dX12_text_102 rfl ?_
    rw [e2]
    refine j_mem (upR_nx2 (b0 := 110 + 50 * 1) (f := m0 74) (h := m0 69)) ?_
    exact ih (i + 1) (by omega)
set_option maxRecDepth 100000 in
theorem p_textG_1 (m : Mem) (t : Nat → Int32) (n : Nat) (ht : ∀ j, j < 50 → m 69 (210 + j) = t j) (hn : n ≤ 50) (e6 : m 69 6 = nI n) (hg : gdR t n 1) : JM l g 49 mX12_text [rf g 68, .int 1] m (RS (some (.int 1)) (fun m' => m' 69 = txR (m 69) 1 (rdF t n 1).2.1 ∧ (∀ b, b ≠ 68 → b ≠ 69 → b ≠ 74 → m' b = m b) ∧ m' 68 3 = m 68 3 ∧ m' 68 16 = m 68 16)) := by
  refine JM_of (ls := [some (rf g 68), some (.int 1), none, none]) pn_X12 rfl rfl ?_
  have eb := rd_b t n 1 (by decide)
  have ht2 : ∀ j, j < 50 → up2 m 69 6 0 69 (210 + j) = t j := fun j hj => by rw [up2_k (by omega)]; exact ht j hj
  refine j_iload1 1 dX12_text_0 rfl ?_
  refine j_i2l 2 dX12_text_1 rfl ?_
  refine j_lconst 3 (v := 0) dX12_text_2 rfl rfl ?_
  refine j_lconst 4 (v := 1) dX12_text_3 rfl rfl ?_
  refine j_st3f 7 dX12_text_4 rfl rfl cl_X12_47 rfl (c_in m _ 0 1) ?_
  refine j_if_ne_bz 16 10 dX12_text_7 rfl rfl (fun h7 => ?_) (fun h7 => absurd (by decide) h7)
  refine j_aload0 17 dX12_text_16 rfl ?_
  refine j_getR 20 dX12_text_17 rfl fl_X12_7 rfl rfl ?_
  refine j_bipush 22 (v := 6) dX12_text_20 rfl rfl ?_
  refine j_iald 23 6 rfl (by first | assumption | decide | omega) dX12_text_22 rfl rfl ?_
  refine j_top e6 ?_
  refine j_istore2 24 dX12_text_23 rfl rfl rfl ?_
  refine j_aload0 25 dX12_text_24 rfl ?_
  refine j_getR 28 dX12_text_25 rfl fl_X12_7 rfl rfl ?_
  refine j_bipush 30 (v := nI 6) dX12_text_28 rfl rfl ?_
  refine j_iconst 31 (v := 0) dX12_text_30 rfl rfl ?_
  refine j_iast 32 6 rfl (by decide) dX12_text_31 rfl rfl ?_
  refine j_aload0 33 dX12_text_32 rfl ?_
  refine j_sipush 36 (v := nI 210) dX12_text_33 rfl rfl ?_
  refine j_iload2 37 dX12_text_36 rfl ?_
  refine j_iload1 38 dX12_text_37 rfl ?_
  refine j_vi3w 41 dX12_text_38 rfl rfl cl_X12_131 rfl rfl (c_reads_1 (up2 m 69 6 0) t n ht2 hn) (fun m38 q38 => ?_)
  rw [fin_g hg] at q38
  obtain ⟨-, e8, -, hc, ho, hs⟩ := q38
  have e8 : m38 68 8 = -1 := e8.trans (if_pos hg.1)
  obtain ⟨c1, c2⟩ := hc hg.1
  have r69 : m38 69 = up2 m 69 6 0 69 := (ho 69 (by decide) (by decide)).trans (by unfold rx0_1; rw [up2_r (by decide), up2_r (by decide), up2_r (by decide), up2_r (by decide), up2_r (by decide), up2_r (by decide), up2_r (by decide)])
  refine j_aload0 42 dX12_text_41 rfl ?_
  refine j_getI 45 dX12_text_42 rfl fl_X12_60 rfl rfl ?_
  refine j_top e8 ?_
  refine j_if_lt 56 48 dX12_text_45 rfl rfl (fun h45 => ?_) (fun h45 => absurd (by decide) h45)
  refine j_aload0 57 dX12_text_56 rfl ?_
  refine j_getR 60 dX12_text_57 rfl fl_X12_7 rfl rfl ?_
  refine j_bipush 62 (v := nI 88) dX12_text_60 rfl rfl ?_
  refine j_iload1 63 dX12_text_62 rfl ?_
  refine j_top (z := nI 1) rfl ?_
  refine j_iaddN 64 dX12_text_63 rfl ?_
  refine j_aload0 65 dX12_text_64 rfl ?_
  refine j_getI 68 dX12_text_65 rfl fl_X12_74 rfl rfl ?_
  refine j_top c1 ?_
  refine j_iast 69 (88 + 1) rfl (by decide) dX12_text_68 rfl rfl ?_
  refine j_iconst 70 (v := 0) dX12_text_69 rfl rfl ?_
  refine j_istore3 71 dX12_text_70 rfl rfl rfl ?_
  have f13 : up2 m38 69 (88 + 1) (nI (rdF t n 1).2.1.length) 68 13 = nI (rdF t n 1).2.1.length := (congrFun (up2_r (by decide)) _).trans c1
  refine j_mem (upR_n0 (m := up2 m38 69 (88 + 1) (nI (rdF t n 1).2.1.length)) (c := 69) (f := fun q => if 110 + 50 * 1 ≤ q ∧ q < 110 + 50 * 1 + 0 then up2 m38 69 (88 + 1) (nI (rdF t n 1).2.1.length) 74 (q - (110 + 50 * 1)) else up2 m38 69 (88 + 1) (nI (rdF t n 1).2.1.length) 69 q) (fun q => if_neg (by omega))).symm ?_
  refine lm_text_1 (rdF t n 1).2.1.length (by omega) _ (up2 m38 69 (88 + 1) (nI (rdF t n 1).2.1.length)) f13 ⟨rfl, ?_, fun b b1 b2 b3 => ?_, ?_, ?_⟩ (rdF t n 1).2.1.length 0 (Nat.zero_add _)
  · rw [upR_s]
    funext q
    unfold txR
    by_cases z : 110 + 50 * 1 ≤ q ∧ q < 110 + 50 * 1 + (rdF t n 1).2.1.length
    · rw [if_pos z, if_pos z, up2_a (by decide)]
      exact c2 _ (by omega)
    · rw [if_neg z, if_neg z, up2_cell, r69, up2_cell]
  · rw [upR_n b2, up2_r b2, ho b b1 b3]
    unfold rx0_1
    rw [up2_r b1, up2_r b1, up2_r b1, up2_r b1, up2_r b1, up2_r b1, up2_r b1, up2_r b2]
  · rw [upR_n (by decide), up2_r (by decide), hs 3 (by decide) (by decide) (by decide) (by decide)]
    unfold rx0_1
    rw [up2_k (by decide), up2_k (by decide), up2_k (by decide), up2_k (by decide), up2_k (by decide), up2_k (by decide), up2_k (by decide), up2_r (by decide)]
  · rw [upR_n (by decide), up2_r (by decide), hs 16 (by decide) (by decide) (by decide) (by decide)]
    unfold rx0_1
    rw [up2_k (by decide), up2_k (by decide), up2_k (by decide), up2_k (by decide), up2_k (by decide), up2_k (by decide), up2_k (by decide), up2_r (by decide)]
set_option maxRecDepth 100000 in
theorem p_textB_1 (m : Mem) (t : Nat → Int32) (n : Nat) (ht : ∀ j, j < 50 → m 69 (210 + j) = t j) (hn : n ≤ 50) (e6 : m 69 6 = nI n) (hg : ¬ gdR t n 1) : JM l g 49 mX12_text [rf g 68, .int 1] m (RS (some (.int (-10 - nI (rdF t n 1).1))) (fun m' => m' 69 = upd1 (m 69) 6 0 ∧ (∀ b, b ≠ 68 → b ≠ 69 → b ≠ 74 → m' b = m b) ∧ m' 68 3 = m 68 3 ∧ m' 68 16 = m 68 16)) := by
  refine JM_of (ls := [some (rf g 68), some (.int 1), none, none]) pn_X12 rfl rfl ?_
  have eb := rd_b t n 1 (by decide)
  have ht2 : ∀ j, j < 50 → up2 m 69 6 0 69 (210 + j) = t j := fun j hj => by rw [up2_k (by omega)]; exact ht j hj
  refine j_iload1 1 dX12_text_0 rfl ?_
  refine j_i2l 2 dX12_text_1 rfl ?_
  refine j_lconst 3 (v := 0) dX12_text_2 rfl rfl ?_
  refine j_lconst 4 (v := 1) dX12_text_3 rfl rfl ?_
  refine j_st3f 7 dX12_text_4 rfl rfl cl_X12_47 rfl (c_in m _ 0 1) ?_
  refine j_if_ne_bz 16 10 dX12_text_7 rfl rfl (fun h7 => ?_) (fun h7 => absurd (by decide) h7)
  refine j_aload0 17 dX12_text_16 rfl ?_
  refine j_getR 20 dX12_text_17 rfl fl_X12_7 rfl rfl ?_
  refine j_bipush 22 (v := 6) dX12_text_20 rfl rfl ?_
  refine j_iald 23 6 rfl (by first | assumption | decide | omega) dX12_text_22 rfl rfl ?_
  refine j_top e6 ?_
  refine j_istore2 24 dX12_text_23 rfl rfl rfl ?_
  refine j_aload0 25 dX12_text_24 rfl ?_
  refine j_getR 28 dX12_text_25 rfl fl_X12_7 rfl rfl ?_
  refine j_bipush 30 (v := nI 6) dX12_text_28 rfl rfl ?_
  refine j_iconst 31 (v := 0) dX12_text_30 rfl rfl ?_
  refine j_iast 32 6 rfl (by decide) dX12_text_31 rfl rfl ?_
  refine j_aload0 33 dX12_text_32 rfl ?_
  refine j_sipush 36 (v := nI 210) dX12_text_33 rfl rfl ?_
  refine j_iload2 37 dX12_text_36 rfl ?_
  refine j_iload1 38 dX12_text_37 rfl ?_
  refine j_vi3w 41 dX12_text_38 rfl rfl cl_X12_131 rfl rfl (c_reads_1 (up2 m 69 6 0) t n ht2 hn) (fun m38 q38 => ?_)
  obtain ⟨-, e8, -, -, ho, hs⟩ := q38
  have fb := fin_b hg
  have e8 : m38 68 8 = nI (rdF t n 1).1 := by rw [e8, fb.1, fb.2]; rfl
  refine j_aload0 42 dX12_text_41 rfl ?_
  refine j_getI 45 dX12_text_42 rfl fl_X12_60 rfl rfl ?_
  refine j_top e8 ?_
  refine j_if_lt 56 48 dX12_text_45 rfl rfl (fun h45 => absurd h45 (nI_pos (by omega))) (fun h45 => ?_)
  refine j_bipush 50 (v := -10) dX12_text_48 rfl rfl ?_
  refine j_aload0 51 dX12_text_50 rfl ?_
  refine j_getI 54 dX12_text_51 rfl fl_X12_60 rfl rfl ?_
  refine j_top e8 ?_
  refine j_isub 55 dX12_text_54 rfl ?_
  refine j_iret dX12_text_55 rfl ?_
  refine ⟨rfl, ?_, fun b b1 b2 b3 => ?_, ?_, ?_⟩
  · rw [ho 69 (by decide) (by decide)]
    unfold rx0_1
    rw [up2_r (by decide), up2_r (by decide), up2_r (by decide), up2_r (by decide), up2_r (by decide), up2_r (by decide), up2_r (by decide)]
    exact up2_row69
  · rw [ho b b1 b3]
    unfold rx0_1
    rw [up2_r b1, up2_r b1, up2_r b1, up2_r b1, up2_r b1, up2_r b1, up2_r b1, up2_r b2]
  · rw [hs 3 (by decide) (by decide) (by decide) (by decide)]
    unfold rx0_1
    rw [up2_k (by decide), up2_k (by decide), up2_k (by decide), up2_k (by decide), up2_k (by decide), up2_k (by decide), up2_k (by decide), up2_r (by decide)]
  · rw [hs 16 (by decide) (by decide) (by decide) (by decide)]
    unfold rx0_1
    rw [up2_k (by decide), up2_k (by decide), up2_k (by decide), up2_k (by decide), up2_k (by decide), up2_k (by decide), up2_k (by decide), up2_r (by decide)]
set_option maxRecDepth 100000 in
theorem e_text (m : Mem) (u : Int32) (h : ¬ (0 ≤ u ∧ u ≤ 1)) : JM l g 2 mX11_text [rf g 0, .int u] m (RF (some (.int (-1000000001))) (errC 1 m)) := by
  refine JM_of (ls := [some (rf g 0), some (.int u), none, none]) pn_X11 rfl rfl ?_
  refine j_iload1 1 dX11_text_0 rfl ?_
  refine j_iconst 2 (v := 0) dX11_text_1 rfl rfl ?_
  refine j_iconst 3 (v := 1) dX11_text_2 rfl rfl ?_
  refine j_st3f 6 dX11_text_3 rfl rfl cl_X11_86 rfl (c_within m u 0 1) ?_
  refine j_if_ne_bz 16 9 dX11_text_6 rfl rfl (fun h6 => absurd h6 h) (fun h6 => ?_)
  refine j_aload0 10 dX11_text_9 rfl ?_
  refine j_ldc 12 dX11_text_10 rfl kc_X11_81 ?_
  refine j_vi1f 15 dX11_text_12 rfl rfl cl_X11_82 rfl rfl (c_err1 m) ?_
  refine j_iret dX11_text_15 rfl ?_
  exact ⟨rfl, rfl⟩
set_option maxRecDepth 100000 in
theorem f_text (m : Mem) (u : Int32) (h : ¬ (0 ≤ u ∧ u ≤ 1)) : JM l g 2 mX12_text [rf g 68, .int u] m (RF (some (.int (-1000000001))) (errM 1 m)) := by
  refine JM_of (ls := [some (rf g 68), some (.int u), none, none]) pn_X12 rfl rfl ?_
  refine j_iload1 1 dX12_text_0 rfl ?_
  refine j_i2l 2 dX12_text_1 rfl ?_
  refine j_lconst 3 (v := 0) dX12_text_2 rfl rfl ?_
  refine j_lconst 4 (v := 1) dX12_text_3 rfl rfl ?_
  refine j_st3f 7 dX12_text_4 rfl rfl cl_X12_47 rfl (c_in m u 0 1) ?_
  refine j_if_ne_bz 16 10 dX12_text_7 rfl rfl (fun h7 => absurd h7 h) (fun h7 => ?_)
  refine j_aload0 11 dX12_text_10 rfl ?_
  refine j_iconst 12 (v := 1) dX12_text_11 rfl rfl ?_
  refine j_vi1f 15 dX12_text_12 rfl rfl cl_X12_126 rfl rfl (c_finds1 m) ?_
  refine j_iret dX12_text_15 rfl ?_
  exact ⟨rfl, rfl⟩
theorem INV_tG_0 {m m1 m2 : Mem} (I : INV m) {L : List Int32} {ok : Bool} {p : Nat} (hL : L.length ≤ 50) (hw : wfL L) (h1 : RdG 39 (p, L, ok) m m1) (h2 : m2 69 = txR (m 69) 0 L) (h3 : ∀ b, b ≠ 68 → b ≠ 69 → b ≠ 74 → m2 b = up2 m1 36 4 0 b) (h4 : m2 68 3 = m 68 3) (h5 : m2 68 16 = m 68 16) : INV m2 := by
  obtain ⟨⟨wf, hd, hT, hP⟩, hI⟩ := id I
  obtain ⟨g3, gk, gc, go⟩ := h1
  have o : ∀ b, b ≠ 68 → b ≠ 69 → b ≠ 74 → b ≠ 36 → b ≠ 39 → b ≠ 40 → b ≠ 42 → m2 b = m b := fun b b1 b2 b3 b4 b5 b6 b7 => by rw [h3 b b1 b2 b3, up2_r b4, go b b5 b6 b7]
  have e36 : ∀ k, k ≠ 4 → m2 36 k = m 36 k := fun k hk => by rw [h3 36 (by decide) (by decide) (by decide), up2_k hk, go 36 (by decide) (by decide) (by decide)]
  have eL : ∀ k, m2 39 k = m1 39 k := fun k => by rw [h3 39 (by decide) (by decide) (by decide), up2_r (by decide)]
  have eC : ∀ k, m2 40 k = m1 40 k := fun k => by rw [h3 40 (by decide) (by decide) (by decide), up2_r (by decide)]
  refine ⟨⟨by rw [h2]; exact WF_tx wf (by decide) hL hw, by rw [h2, tx_o (by omega) (by omega) (by omega)]; exact hd, ?_, ?_⟩, INVr_same hI (fun b hb => ?_) h4 h5⟩
  · rw [h2]
    exact TR_d (TR_same hT (fun b b1 b2 => o b (by omega) (by omega) (by omega) (by omega) (by omega) (by omega) (by omega))) (fun k k1 k2 => tx_o (by omega) (by omega) (by omega))
  · rw [h2]
    obtain ⟨p4, p5, p6, pt, pw, l0, l1⟩ := hP
    refine ⟨by rw [h3 36 (by decide) (by decide) (by decide), up2_s, tx_6], by rw [e36 5 (by decide), tx_o (by omega) (by omega) (by omega)]; exact p5, by rw [e36 6 (by decide), tx_o (by omega) (by omega) (by omega)]; exact p6, fun i hi => by rw [o (36 + 1) (by decide) (by decide) (by decide) (by decide) (by decide) (by decide) (by decide), tx_o (by omega) (by omega) (by omega)]; exact pt i hi, fun i hi => by rw [o (36 + 2) (by decide) (by decide) (by decide) (by decide) (by decide) (by decide) (by decide), tx_o (by omega) (by omega) (by omega)]; exact pw i hi, ?_, ?_⟩
    · exact ⟨by rw [eL 3, g3]; exact (tx_n (by decide)).symm, by rw [eL 1, gk 1 (by decide) (by decide)]; exact l0.2.1, fun j hj => by (rw [tx_n (by decide), nI_clamp (by omega)] at hj; rw [eC j, tx_c hj]; exact gc j hj)⟩
    · exact LR_keep wf.t1 l1 (congrFun (o (36 + 7) (by decide) (by decide) (by decide) (by decide) (by decide) (by decide) (by decide)) _) (congrFun (o (36 + 7) (by decide) (by decide) (by decide) (by decide) (by decide) (by decide) (by decide)) _) (fun j _ => congrFun (o (36 + 7 + 1) (by decide) (by decide) (by decide) (by decide) (by decide) (by decide) (by decide)) _) (fun k hk => tx_o (by omega) (by omega) (by omega))
  · refine o b ?_ ?_ ?_ ?_ ?_ ?_ ?_ <;> (intro q; subst q; exact absurd hb (by decide))
theorem INV_tB_0 {m m1 m2 : Mem} (I : INV m) (h1 : RdB 39 m m1) (h2 : m2 69 = upd1 (m 69) 6 0) (h3 : ∀ b, b ≠ 68 → b ≠ 69 → b ≠ 74 → m2 b = up2 m1 36 4 0 b) (h4 : m2 68 3 = m 68 3) (h5 : m2 68 16 = m 68 16) : INV m2 := by
  obtain ⟨⟨wf, hd, hT, hP⟩, hI⟩ := id I
  obtain ⟨gk, go⟩ := h1
  have u6 : ∀ k, k ≠ 6 → upd1 (m 69) 6 0 k = m 69 k := fun k hk => if_neg hk
  have o : ∀ b, b ≠ 68 → b ≠ 69 → b ≠ 74 → b ≠ 36 → b ≠ 39 → b ≠ 42 → m2 b = m b := fun b b1 b2 b3 b4 b5 b7 => by rw [h3 b b1 b2 b3, up2_r b4, go b b5 b7]
  have e36 : ∀ k, k ≠ 4 → m2 36 k = m 36 k := fun k hk => by rw [h3 36 (by decide) (by decide) (by decide), up2_k hk, go 36 (by decide) (by decide)]
  have eL : ∀ k, k < 6 → m2 39 k = m 39 k := fun k hk => by rw [h3 39 (by decide) (by decide) (by decide), up2_r (by decide), gk k hk]
  have w6 : WF (upd1 (m 69) 6 0) := by
    obtain ⟨w1, w2, w3, w4, w5, w6, w7, w8, w9, w10, w11, w12⟩ := wf
    obtain ⟨n0, a1, a2, a3⟩ := w10
    obtain ⟨n1, b1, b2, b3⟩ := w11
    exact ⟨by rw [u6 0 (by omega)]; exact w1, by rw [u6 2 (by omega)]; exact w2, by rw [u6 3 (by omega)]; exact w3, by rw [u6 4 (by omega)]; exact w4, ⟨0, by decide, if_pos rfl⟩, by rw [u6 7 (by omega)]; exact w6, fun j hj => by rw [u6 _ (by omega)]; exact w7 j hj, fun j hj => by rw [u6 _ (by omega)]; exact w8 j hj, fun h hh => HWr_eq (fun r hr => u6 _ (by omega)) (w9 h hh), ⟨n0, a1, by rw [u6 _ (by omega)]; exact a2, wfC_congr (fun j hj => u6 _ (by omega)) a3⟩, ⟨n1, b1, by rw [u6 _ (by omega)]; exact b2, wfC_congr (fun j hj => u6 _ (by omega)) b3⟩, fun j hj => by rw [u6 _ (by omega)]; exact w12 j hj⟩
  refine ⟨⟨by rw [h2]; exact w6, by rw [h2, u6 1 (by decide)]; exact hd, ?_, ?_⟩, INVr_same hI (fun b hb => ?_) h4 h5⟩
  · rw [h2]
    exact TR_d (TR_same hT (fun b b1 b2 => o b (by omega) (by omega) (by omega) (by omega) (by omega) (by omega))) (fun k k1 k2 => u6 k (by omega))
  · rw [h2]
    obtain ⟨p4, p5, p6, pt, pw, l0, l1⟩ := hP
    refine ⟨by rw [h3 36 (by decide) (by decide) (by decide), up2_s]; exact (if_pos rfl).symm, by rw [e36 5 (by decide), u6 7 (by decide)]; exact p5, by rw [e36 6 (by decide), u6 5 (by decide)]; exact p6, fun i hi => by rw [o (36 + 1) (by decide) (by decide) (by decide) (by decide) (by decide) (by decide), u6 _ (by omega)]; exact pt i hi, fun i hi => by rw [o (36 + 2) (by decide) (by decide) (by decide) (by decide) (by decide) (by decide), u6 _ (by omega)]; exact pw i hi, ?_, ?_⟩
    · exact LR_keep wf.t0 l0 (eL 3 (by decide)) (eL 1 (by decide)) (fun j _ => congrFun (o (36 + 3 + 1) (by decide) (by decide) (by decide) (by decide) (by decide) (by decide)) _) (fun k hk => u6 k (by omega))
    · exact LR_keep wf.t1 l1 (congrFun (o (36 + 7) (by decide) (by decide) (by decide) (by decide) (by decide) (by decide)) _) (congrFun (o (36 + 7) (by decide) (by decide) (by decide) (by decide) (by decide) (by decide)) _) (fun j _ => congrFun (o (36 + 7 + 1) (by decide) (by decide) (by decide) (by decide) (by decide) (by decide)) _) (fun k hk => u6 k (by omega))
  · refine o b ?_ ?_ ?_ ?_ ?_ ?_ <;> (intro q; subst q; exact absurd hb (by decide))
theorem op_text_0 (hG : G0 g) {m : Mem} (I : INV m) : OPr l g mX11_text mX12_text [.int 0] m := by
  obtain ⟨⟨wf, hd, hT, hP⟩, -⟩ := id I
  obtain ⟨v, hSO⟩ := SO_of hG (u := 0) (by decide)
  obtain ⟨n, hn, e6⟩ := wf.2.2.2.2.1
  have hnb : ∀ j, j < 50 → nb ((fun j => m 69 (210 + j)) j) 256 := wf.2.2.2.2.2.2.2.2.2.2.2
  have e4 : m 36 4 = nI n := hP.1.trans e6
  have eb := rd_b (fun j => m 69 (210 + j)) n 0 (by decide)
  by_cases hg : gdR (fun j => m 69 (210 + j)) n 0
  · refine ⟨50, 49, 1, _, by decide, by decide, o_textG_0 v n m (fun j => m 69 (210 + j)) hSO (fun j hj => hP.2.2.2.1 j hj) hnb (by omega) e4 hg, fun m' e => ?_⟩
    obtain ⟨m1, r1, rfl⟩ := e
    have e69 : up2 m1 36 4 0 69 = m 69 := (up2_r (by decide)).trans (r1.2.2.2 69 (by decide) (by decide) (by decide))
    have e68 : up2 m1 36 4 0 68 = m 68 := (up2_r (by decide)).trans (r1.2.2.2 68 (by decide) (by decide) (by decide))
    refine (p_textG_0 (l := l) (g := g) (up2 m1 36 4 0) (fun j => m 69 (210 + j)) n (fun j hj => by rw [e69]) (by omega) (by rw [e69]; exact e6) hg).mono (RS_w (fun m2 q => ?_))
    obtain ⟨q1, q2, q3, q4⟩ := q
    exact INV_tG_0 I (by omega) (rd_w _ _ _ hg.1) r1 (by rw [q1, e69]) q2 (by rw [q3, e68]) (by rw [q4, e68])
  · refine ⟨50, 49, _, _, by decide, by decide, o_textB_0 v n m (fun j => m 69 (210 + j)) hSO (fun j hj => hP.2.2.2.1 j hj) hnb (by omega) e4 hg, fun m' e => ?_⟩
    obtain ⟨m1, r1, rfl⟩ := e
    have e69 : up2 m1 36 4 0 69 = m 69 := (up2_r (by decide)).trans (r1.2 69 (by decide) (by decide))
    have e68 : up2 m1 36 4 0 68 = m 68 := (up2_r (by decide)).trans (r1.2 68 (by decide) (by decide))
    refine (p_textB_0 (l := l) (g := g) (up2 m1 36 4 0) (fun j => m 69 (210 + j)) n (fun j hj => by rw [e69]) (by omega) (by rw [e69]; exact e6) hg).mono (RS_w (fun m2 q => ?_))
    obtain ⟨q1, q2, q3, q4⟩ := q
    exact INV_tB_0 I r1 (by rw [q1, e69]) q2 (by rw [q3, e68]) (by rw [q4, e68])
theorem INV_tG_1 {m m1 m2 : Mem} (I : INV m) {L : List Int32} {ok : Bool} {p : Nat} (hL : L.length ≤ 50) (hw : wfL L) (h1 : RdG 43 (p, L, ok) m m1) (h2 : m2 69 = txR (m 69) 1 L) (h3 : ∀ b, b ≠ 68 → b ≠ 69 → b ≠ 74 → m2 b = up2 m1 36 4 0 b) (h4 : m2 68 3 = m 68 3) (h5 : m2 68 16 = m 68 16) : INV m2 := by
  obtain ⟨⟨wf, hd, hT, hP⟩, hI⟩ := id I
  obtain ⟨g3, gk, gc, go⟩ := h1
  have o : ∀ b, b ≠ 68 → b ≠ 69 → b ≠ 74 → b ≠ 36 → b ≠ 43 → b ≠ 44 → b ≠ 46 → m2 b = m b := fun b b1 b2 b3 b4 b5 b6 b7 => by rw [h3 b b1 b2 b3, up2_r b4, go b b5 b6 b7]
  have e36 : ∀ k, k ≠ 4 → m2 36 k = m 36 k := fun k hk => by rw [h3 36 (by decide) (by decide) (by decide), up2_k hk, go 36 (by decide) (by decide) (by decide)]
  have eL : ∀ k, m2 43 k = m1 43 k := fun k => by rw [h3 43 (by decide) (by decide) (by decide), up2_r (by decide)]
  have eC : ∀ k, m2 44 k = m1 44 k := fun k => by rw [h3 44 (by decide) (by decide) (by decide), up2_r (by decide)]
  refine ⟨⟨by rw [h2]; exact WF_tx wf (by decide) hL hw, by rw [h2, tx_o (by omega) (by omega) (by omega)]; exact hd, ?_, ?_⟩, INVr_same hI (fun b hb => ?_) h4 h5⟩
  · rw [h2]
    exact TR_d (TR_same hT (fun b b1 b2 => o b (by omega) (by omega) (by omega) (by omega) (by omega) (by omega) (by omega))) (fun k k1 k2 => tx_o (by omega) (by omega) (by omega))
  · rw [h2]
    obtain ⟨p4, p5, p6, pt, pw, l0, l1⟩ := hP
    refine ⟨by rw [h3 36 (by decide) (by decide) (by decide), up2_s, tx_6], by rw [e36 5 (by decide), tx_o (by omega) (by omega) (by omega)]; exact p5, by rw [e36 6 (by decide), tx_o (by omega) (by omega) (by omega)]; exact p6, fun i hi => by rw [o (36 + 1) (by decide) (by decide) (by decide) (by decide) (by decide) (by decide) (by decide), tx_o (by omega) (by omega) (by omega)]; exact pt i hi, fun i hi => by rw [o (36 + 2) (by decide) (by decide) (by decide) (by decide) (by decide) (by decide) (by decide), tx_o (by omega) (by omega) (by omega)]; exact pw i hi, ?_, ?_⟩
    · exact LR_keep wf.t0 l0 (congrFun (o (36 + 3) (by decide) (by decide) (by decide) (by decide) (by decide) (by decide) (by decide)) _) (congrFun (o (36 + 3) (by decide) (by decide) (by decide) (by decide) (by decide) (by decide) (by decide)) _) (fun j _ => congrFun (o (36 + 3 + 1) (by decide) (by decide) (by decide) (by decide) (by decide) (by decide) (by decide)) _) (fun k hk => tx_o (by omega) (by omega) (by omega))
    · exact ⟨by rw [eL 3, g3]; exact (tx_n (by decide)).symm, by rw [eL 1, gk 1 (by decide) (by decide)]; exact l1.2.1, fun j hj => by (rw [tx_n (by decide), nI_clamp (by omega)] at hj; rw [eC j, tx_c hj]; exact gc j hj)⟩
  · refine o b ?_ ?_ ?_ ?_ ?_ ?_ ?_ <;> (intro q; subst q; exact absurd hb (by decide))
theorem INV_tB_1 {m m1 m2 : Mem} (I : INV m) (h1 : RdB 43 m m1) (h2 : m2 69 = upd1 (m 69) 6 0) (h3 : ∀ b, b ≠ 68 → b ≠ 69 → b ≠ 74 → m2 b = up2 m1 36 4 0 b) (h4 : m2 68 3 = m 68 3) (h5 : m2 68 16 = m 68 16) : INV m2 := by
  obtain ⟨⟨wf, hd, hT, hP⟩, hI⟩ := id I
  obtain ⟨gk, go⟩ := h1
  have u6 : ∀ k, k ≠ 6 → upd1 (m 69) 6 0 k = m 69 k := fun k hk => if_neg hk
  have o : ∀ b, b ≠ 68 → b ≠ 69 → b ≠ 74 → b ≠ 36 → b ≠ 43 → b ≠ 46 → m2 b = m b := fun b b1 b2 b3 b4 b5 b7 => by rw [h3 b b1 b2 b3, up2_r b4, go b b5 b7]
  have e36 : ∀ k, k ≠ 4 → m2 36 k = m 36 k := fun k hk => by rw [h3 36 (by decide) (by decide) (by decide), up2_k hk, go 36 (by decide) (by decide)]
  have eL : ∀ k, k < 6 → m2 43 k = m 43 k := fun k hk => by rw [h3 43 (by decide) (by decide) (by decide), up2_r (by decide), gk k hk]
  have w6 : WF (upd1 (m 69) 6 0) := by
    obtain ⟨w1, w2, w3, w4, w5, w6, w7, w8, w9, w10, w11, w12⟩ := wf
    obtain ⟨n0, a1, a2, a3⟩ := w10
    obtain ⟨n1, b1, b2, b3⟩ := w11
    exact ⟨by rw [u6 0 (by omega)]; exact w1, by rw [u6 2 (by omega)]; exact w2, by rw [u6 3 (by omega)]; exact w3, by rw [u6 4 (by omega)]; exact w4, ⟨0, by decide, if_pos rfl⟩, by rw [u6 7 (by omega)]; exact w6, fun j hj => by rw [u6 _ (by omega)]; exact w7 j hj, fun j hj => by rw [u6 _ (by omega)]; exact w8 j hj, fun h hh => HWr_eq (fun r hr => u6 _ (by omega)) (w9 h hh), ⟨n0, a1, by rw [u6 _ (by omega)]; exact a2, wfC_congr (fun j hj => u6 _ (by omega)) a3⟩, ⟨n1, b1, by rw [u6 _ (by omega)]; exact b2, wfC_congr (fun j hj => u6 _ (by omega)) b3⟩, fun j hj => by rw [u6 _ (by omega)]; exact w12 j hj⟩
  refine ⟨⟨by rw [h2]; exact w6, by rw [h2, u6 1 (by decide)]; exact hd, ?_, ?_⟩, INVr_same hI (fun b hb => ?_) h4 h5⟩
  · rw [h2]
    exact TR_d (TR_same hT (fun b b1 b2 => o b (by omega) (by omega) (by omega) (by omega) (by omega) (by omega))) (fun k k1 k2 => u6 k (by omega))
  · rw [h2]
    obtain ⟨p4, p5, p6, pt, pw, l0, l1⟩ := hP
    refine ⟨by rw [h3 36 (by decide) (by decide) (by decide), up2_s]; exact (if_pos rfl).symm, by rw [e36 5 (by decide), u6 7 (by decide)]; exact p5, by rw [e36 6 (by decide), u6 5 (by decide)]; exact p6, fun i hi => by rw [o (36 + 1) (by decide) (by decide) (by decide) (by decide) (by decide) (by decide), u6 _ (by omega)]; exact pt i hi, fun i hi => by rw [o (36 + 2) (by decide) (by decide) (by decide) (by decide) (by decide) (by decide), u6 _ (by omega)]; exact pw i hi, ?_, ?_⟩
    · exact LR_keep wf.t0 l0 (congrFun (o (36 + 3) (by decide) (by decide) (by decide) (by decide) (by decide) (by decide)) _) (congrFun (o (36 + 3) (by decide) (by decide) (by decide) (by decide) (by decide) (by decide)) _) (fun j _ => congrFun (o (36 + 3 + 1) (by decide) (by decide) (by decide) (by decide) (by decide) (by decide)) _) (fun k hk => u6 k (by omega))
    · exact LR_keep wf.t1 l1 (eL 3 (by decide)) (eL 1 (by decide)) (fun j _ => congrFun (o (36 + 7 + 1) (by decide) (by decide) (by decide) (by decide) (by decide) (by decide)) _) (fun k hk => u6 k (by omega))
  · refine o b ?_ ?_ ?_ ?_ ?_ ?_ <;> (intro q; subst q; exact absurd hb (by decide))
theorem op_text_1 (hG : G0 g) {m : Mem} (I : INV m) : OPr l g mX11_text mX12_text [.int 1] m := by
  obtain ⟨⟨wf, hd, hT, hP⟩, -⟩ := id I
  obtain ⟨v, hSO⟩ := SO_of hG (u := 1) (by decide)
  obtain ⟨n, hn, e6⟩ := wf.2.2.2.2.1
  have hnb : ∀ j, j < 50 → nb ((fun j => m 69 (210 + j)) j) 256 := wf.2.2.2.2.2.2.2.2.2.2.2
  have e4 : m 36 4 = nI n := hP.1.trans e6
  have eb := rd_b (fun j => m 69 (210 + j)) n 1 (by decide)
  by_cases hg : gdR (fun j => m 69 (210 + j)) n 1
  · refine ⟨50, 49, 1, _, by decide, by decide, o_textG_1 v n m (fun j => m 69 (210 + j)) hSO (fun j hj => hP.2.2.2.1 j hj) hnb (by omega) e4 hg, fun m' e => ?_⟩
    obtain ⟨m1, r1, rfl⟩ := e
    have e69 : up2 m1 36 4 0 69 = m 69 := (up2_r (by decide)).trans (r1.2.2.2 69 (by decide) (by decide) (by decide))
    have e68 : up2 m1 36 4 0 68 = m 68 := (up2_r (by decide)).trans (r1.2.2.2 68 (by decide) (by decide) (by decide))
    refine (p_textG_1 (l := l) (g := g) (up2 m1 36 4 0) (fun j => m 69 (210 + j)) n (fun j hj => by rw [e69]) (by omega) (by rw [e69]; exact e6) hg).mono (RS_w (fun m2 q => ?_))
    obtain ⟨q1, q2, q3, q4⟩ := q
    exact INV_tG_1 I (by omega) (rd_w _ _ _ hg.1) r1 (by rw [q1, e69]) q2 (by rw [q3, e68]) (by rw [q4, e68])
  · refine ⟨50, 49, _, _, by decide, by decide, o_textB_1 v n m (fun j => m 69 (210 + j)) hSO (fun j hj => hP.2.2.2.1 j hj) hnb (by omega) e4 hg, fun m' e => ?_⟩
    obtain ⟨m1, r1, rfl⟩ := e
    have e69 : up2 m1 36 4 0 69 = m 69 := (up2_r (by decide)).trans (r1.2 69 (by decide) (by decide))
    have e68 : up2 m1 36 4 0 68 = m 68 := (up2_r (by decide)).trans (r1.2 68 (by decide) (by decide))
    refine (p_textB_1 (l := l) (g := g) (up2 m1 36 4 0) (fun j => m 69 (210 + j)) n (fun j hj => by rw [e69]) (by omega) (by rw [e69]; exact e6) hg).mono (RS_w (fun m2 q => ?_))
    obtain ⟨q1, q2, q3, q4⟩ := q
    exact INV_tB_1 I r1 (by rw [q1, e69]) q2 (by rw [q3, e68]) (by rw [q4, e68])
theorem op_text (hG : G0 g) {m : Mem} (I : INV m) (u : Int32) : OPr l g mX11_text mX12_text [.int u] m := by
  by_cases h : 0 ≤ u ∧ u ≤ 1
  · by_cases u0 : u = 0
    · subst u0; exact op_text_0 hG I
    · have u1 := w01 h.1 h.2 u0
      subst u1
      exact op_text_1 hG I
  · exact OPr_err I (by decide) (by decide) (by decide) (e_text m u h) (f_text _ u h)
end O38
