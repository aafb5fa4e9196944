/-! law, feed -/
def lt64 (x : Int64) (i : Nat) : Bool := x.toBitVec.getLsbD i
theorem l_ext {x y : Int64} (h : ∀ i, i < 64 → lt64 x i = lt64 y i) : x = y := Int64.toBitVec_inj.mp (BitVec.eq_of_getLsbD_eq (fun i hi => h i hi))
theorem l_and (x y : Int64) (i : Nat) : lt64 (x &&& y) i = (lt64 x i && lt64 y i) := by unfold lt64; rw [Int64.toBitVec_and, BitVec.getLsbD_and]
theorem l_255 : ∀ i, i < 64 → lt64 255 i = decide (i < 8) := by decide +kernel
theorem sl_l : ∀ n, n < 64 → (((nI n).toInt64 &&& 63).toBitVec.smod 64).toNat = n := by decide +kernel
theorem sl_u : ∀ n, n < 64 → (((nI n).toInt64.toUInt64 &&& Int64.toUInt64 63).toBitVec % 64).toNat = n := by decide +kernel
theorem l_ushr (n : Nat) (hn : n < 64) (x : Int64) (i : Nat) : lt64 ((x.toUInt64 >>> ((nI n).toInt64.toUInt64 &&& Int64.toUInt64 63)).toInt64) i = lt64 x (n + i) := by
  show (x.toUInt64 >>> ((nI n).toInt64.toUInt64 &&& Int64.toUInt64 63)).toBitVec.getLsbD i = x.toUInt64.toBitVec.getLsbD (n + i)
  rw [UInt64.toBitVec_shiftRight]
  show (x.toUInt64.toBitVec >>> (((nI n).toInt64.toUInt64 &&& Int64.toUInt64 63).toBitVec % 64).toNat).getLsbD i = _
  rw [sl_u n hn, BitVec.getLsbD_ushiftRight]
theorem l_sshr (n : Nat) (hn : n < 64) (x : Int64) {i : Nat} (hi : i < 64) : lt64 (x >>> ((nI n).toInt64 &&& 63)) i = if n + i < 64 then lt64 x (n + i) else lt64 x 63 := by
  unfold lt64
  rw [Int64.toBitVec_shiftRight]
  show (x.toBitVec.sshiftRight (((nI n).toInt64 &&& 63).toBitVec.smod 64).toNat).getLsbD i = _
  rw [sl_l n hn, BitVec.getLsbD_sshiftRight, BitVec.msb_eq_getLsbD_last]
  simp [hi]
theorem by_eq (n : Nat) (hn : n ≤ 56) (x : Int64) : (x.toUInt64 >>> ((nI n).toInt64.toUInt64 &&& Int64.toUInt64 63)).toInt64 &&& 255 = (x >>> ((nI n).toInt64 &&& 63)) &&& 255 := by
  apply l_ext
  intro i hi
  rw [l_and, l_and, l_255 i hi, l_ushr n (by omega), l_sshr n (by omega) x hi]
  by_cases q : i < 8
  · rw [if_pos (by omega)]
  · rw [decide_eq_false q, Bool.and_false, Bool.and_false]
theorem by_nb (x : Int64) : nb ((x &&& 255).toInt32) 256 := by
  have h : (x &&& 255).toBitVec.toNat < 256 := by
    rw [Int64.toBitVec_and, BitVec.toNat_and]
    exact Nat.lt_of_le_of_lt Nat.and_le_right (by decide)
  refine ⟨(x &&& 255).toBitVec.toNat, h, of_tn (by omega) ?_⟩
  rw [Int64.toBitVec_toInt32, BitVec.signExtend_eq_setWidth_of_le _ (by decide), BitVec.toNat_setWidth]
  exact Nat.mod_eq_of_lt (by omega)
/-- the bytes of a word, as both sides read them -/
def FH (w : Int64) (F : Nat → Int32) : Prop := ∀ i, i < 8 → ((w.toUInt64 >>> ((nI (8 * i)).toInt64.toUInt64 &&& Int64.toUInt64 63)).toInt64 &&& 255).toInt32 = F i ∧ ((w >>> ((nI (8 * i)).toInt64 &&& 63)) &&& 255).toInt32 = F i ∧ nb (F i) 256
theorem FH_ex (w : Int64) : ∃ F, FH w F := ⟨fun i => ((w >>> ((nI (8 * i)).toInt64 &&& 63)) &&& 255).toInt32, fun i hi => ⟨by rw [by_eq (8 * i) (by omega)], rfl, by_nb _⟩⟩
def fd1 (e : Nat → Int32) (t : Nat) (v : Int32) : Nat → Int32 := upd1 (upd1 e (210 + t) v) 6 (nI (t + 1))
def fdN (d F : Nat → Int32) (T : Nat) : Nat → (Nat → Int32)
  | 0 => d
  | i + 1 => fd1 (fdN d F T i) (T + i) (F i)
theorem fd1_o {e : Nat → Int32} {t k : Nat} {v : Int32} (h6 : k ≠ 6) (h : k ≠ 210 + t) : fd1 e t v k = e k := by
  unfold fd1 upd1
  rw [if_neg h6, if_neg h]
theorem fd1_6 {e : Nat → Int32} {t : Nat} {v : Int32} : fd1 e t v 6 = nI (t + 1) := by unfold fd1 upd1; rw [if_pos rfl]
theorem WF_fd1 {e : Nat → Int32} (w : WF e) {t : Nat} {v : Int32} (ht : t < 50) (hv : nb v 256) : WF (fd1 e t v) := by
  obtain ⟨w1, w2, w3, w4, w5, w6, w7, w8, w9, w10, w11, w12⟩ := w
  have o : ∀ j, j ≠ 6 → j < 210 → fd1 e t v j = e j := fun j h1 h2 => fd1_o h1 (by omega)
  refine ⟨by rw [o 0 (by omega) (by omega)]; exact w1, by rw [o 2 (by omega) (by omega)]; exact w2, by rw [o 3 (by omega) (by omega)]; exact w3, by rw [o 4 (by omega) (by omega)]; exact w4, by rw [fd1_6]; exact ⟨t + 1, by omega, rfl⟩, by rw [o 7 (by omega) (by omega)]; exact w6, fun j hj => by rw [o _ (by omega) (by omega)]; exact w7 j hj, fun j hj => by rw [o _ (by omega) (by omega)]; exact w8 j hj, fun h hh => HWr_eq (fun r hr => o _ (by omega) (by omega)) (w9 h hh), ?_, ?_, fun j hj => ?_⟩
  · obtain ⟨n, n1, n2, n3⟩ := w10
    exact ⟨n, n1, by rw [o _ (by omega) (by omega)]; exact n2, wfC_congr (fun j hj => o _ (by omega) (by omega)) n3⟩
  · obtain ⟨n, n1, n2, n3⟩ := w11
    exact ⟨n, n1, by rw [o _ (by omega) (by omega)]; exact n2, wfC_congr (fun j hj => o _ (by omega) (by omega)) n3⟩
  · by_cases q : j = t
    · subst q
      rw [show fd1 e j v (210 + j) = v by unfold fd1 upd1; rw [if_neg (by omega), if_pos rfl]]
      exact hv
    · rw [fd1_o (by omega) (by omega)]; exact w12 j hj
theorem fdN_6 {d F : Nat → Int32} {T : Nat} (h : d 6 = nI T) : ∀ i, fdN d F T i 6 = nI (T + i)
  | 0 => h
  | i + 1 => fd1_6
theorem fdN_k {d F : Nat → Int32} {T k : Nat} (h6 : k ≠ 6) (hk : k < 210) : ∀ i, fdN d F T i k = d k
  | 0 => rfl
  | i + 1 => (fd1_o h6 (by omega)).trans (fdN_k h6 hk i)
theorem WF_fdN {d F : Nat → Int32} {T : Nat} (w : WF d) : ∀ i, T + i ≤ 50 → (∀ j, j < i → nb (F j) 256) → WF (fdN d F T i)
  | 0, _, _ => w
  | i + 1, h, hv => WF_fd1 (WF_fdN w i (by omega) (fun j hj => hv j (by omega))) (by omega) (hv i (by omega))
theorem LR_210 {m m' : Mem} {L u : Nat} {d e : Nat → Int32} (hu : u ≤ 1) (w : TXok d u) (h : LR m L d u) (h1 : m' L = m L) (h2 : m' (L + 1) = m (L + 1)) (hk : ∀ k, 88 ≤ k → k < 210 → e k = d k) : LR m' L e u := by
  obtain ⟨a, b, c⟩ := h
  obtain ⟨n, n1, n2, n3⟩ := w
  have e8 : e (88 + u) = d (88 + u) := hk _ (by omega) (by omega)
  refine ⟨by rw [h1, e8]; exact a, by rw [h1]; exact b, fun j hj => ?_⟩
  rw [e8] at hj
  have hj2 : j < 50 := by rw [n2, nI_clamp (by omega)] at hj; omega
  rw [h2, hk (110 + 50 * u + j) (by omega) (by omega)]
  exact c j hj
theorem PR_fd1 {m : Mem} {e : Nat → Int32} {t : Nat} {v : Int32} (w : WF e) (hP : PR 36 m e) (ht : t < 50) : PR 36 (up2 (up2 m 37 t v) 36 4 (nI (t + 1))) (fd1 e t v) := by
  obtain ⟨p4, p5, p6, pt, pw, l0, l1⟩ := hP
  have o : ∀ j, j ≠ 6 → j < 210 → fd1 e t v j = e j := fun j h1 h2 => fd1_o h1 (by omega)
  have c : ∀ b, b ≠ 36 → b ≠ 37 → up2 (up2 m 37 t v) 36 4 (nI (t + 1)) b = m b := fun b h1 h2 => by rw [up2_r h1, up2_r h2]
  refine ⟨by rw [up2_s, fd1_6], by rw [up2_k (by decide), up2_a (by decide), o 7 (by decide) (by decide)]; exact p5, by rw [up2_k (by decide), up2_a (by decide), o 5 (by decide) (by decide)]; exact p6, fun i hi => ?_, fun i hi => by rw [c _ (by omega) (by omega), o _ (by omega) (by omega)]; exact pw i hi, LR_210 (by decide) w.t0 l0 (c _ (by decide) (by decide)) (c _ (by decide) (by decide)) (fun k h1 h2 => o k (by omega) h2), LR_210 (by decide) w.t1 l1 (c _ (by decide) (by decide)) (c _ (by decide) (by decide)) (fun k h1 h2 => o k (by omega) h2)⟩
  rw [up2_a (by decide)]
  by_cases q : i = t
  · subst q
    rw [show up2 m 37 i v (36 + 1) i = v from up2_s]
    unfold fd1 upd1
    rw [if_neg (by omega), if_pos rfl]
  · rw [up2_k q, fd1_o (by omega) (by omega)]; exact pt i hi
section O28
variable {l : Launch} {g : Gv}
set_option maxRecDepth 100000 in
theorem o_law_0 (m : Mem) (d : Nat → Int32) (w : WF d) (hP : PR 36 m d) (a b c : Int32) : JM l g 3 mX11_law [rf g 0, .int 0, .int a, .int b, .int c] m (RS (some (.int (textG d 0 a b c))) (Sm thS m)) := by
  refine JM_of (ls := [some (rf g 0), some (.int 0), some (.int a), some (.int b), some (.int c)]) pn_X11 rfl rfl ?_
  refine j_iload1 1 dX11_law_0 rfl ?_
  refine j_iconst 2 (v := 0) dX11_law_1 rfl rfl ?_
  refine j_iconst 3 (v := 1) dX11_law_2 rfl rfl ?_
  refine j_st3f 6 dX11_law_3 rfl rfl cl_X11_86 rfl (c_within m _ 0 1) ?_
  refine j_if_ne_bz 16 9 dX11_law_6 rfl rfl (fun h6 => ?_) (fun h6 => absurd (by decide) h6)
  refine j_iload1 17 dX11_law_16 rfl ?_
  refine j_if_ne 37 20 dX11_law_17 rfl rfl (fun h17 => absurd h17 (by decide)) (fun h17 => ?_)
  refine j_aload0 21 dX11_law_20 rfl ?_
  refine j_getR 24 dX11_law_21 rfl fl_X11_48 rfl rfl ?_
  refine j_getR 27 dX11_law_24 rfl fl_X11_183 rfl rfl ?_
  refine j_iload2 28 dX11_law_27 rfl ?_
  refine j_iload3 29 dX11_law_28 rfl ?_
  refine j_iload4 31 dX11_law_29 rfl ?_
  refine j_vi3s 34 dX11_law_31 rfl rfl cl_X11_199 rfl rfl (c_gives_39 m d a b c w.t0 hP.2.2.2.2.2.1) (fun m31 q31 => ?_)
  refine j_goto 51 dX11_law_34 rfl ?_
  refine j_iret dX11_law_51 rfl ?_
  exact ⟨rfl, q31.mono (by decide)⟩
set_option maxRecDepth 100000 in
theorem p_law_0 (m : Mem) (w : WF (m 69)) (a b c : Int32) : JM l g 3 mX12_law [rf g 68, .int 0, .int a, .int b, .int c] m (RS (some (.int (textG (m 69) 0 a b c))) (MK m)) := by
  refine JM_of (ls := [some (rf g 68), some (.int 0), some (.int a), some (.int b), some (.int c)]) pn_X12 rfl rfl ?_
  refine j_iload1 1 dX12_law_0 rfl ?_
  refine j_i2l 2 dX12_law_1 rfl ?_
  refine j_lconst 3 (v := 0) dX12_law_2 rfl rfl ?_
  refine j_lconst 4 (v := 1) dX12_law_3 rfl rfl ?_
  refine j_st3f 7 dX12_law_4 rfl rfl cl_X12_47 rfl (c_in m _ 0 1) ?_
  refine j_if_eq_bz 22 10 dX12_law_7 rfl rfl (fun h7 => absurd (by decide) h7) (fun h7 => ?_)
  refine j_aload0 11 dX12_law_10 rfl ?_
  refine j_iload1 12 dX12_law_11 rfl ?_
  refine j_iload2 13 dX12_law_12 rfl ?_
  refine j_iload3 14 dX12_law_13 rfl ?_
  refine j_iload4 16 dX12_law_14 rfl ?_
  refine j_vi4s 19 dX12_law_16 rfl rfl cl_X12_142 rfl rfl (c_textG_0 m a b c w.t0) (fun m16 q16 => ?_)
  refine j_goto 27 dX12_law_19 rfl ?_
  refine j_iret dX12_law_27 rfl ?_
  exact ⟨rfl, q16 69 (by decide), q16.mono (by decide)⟩
set_option maxRecDepth 100000 in
theorem o_law_1 (m : Mem) (d : Nat → Int32) (w : WF d) (hP : PR 36 m d) (a b c : Int32) : JM l g 3 mX11_law [rf g 0, .int 1, .int a, .int b, .int c] m (RS (some (.int (textG d 1 a b c))) (Sm thS m)) := by
  refine JM_of (ls := [some (rf g 0), some (.int 1), some (.int a), some (.int b), some (.int c)]) pn_X11 rfl rfl ?_
  refine j_iload1 1 dX11_law_0 rfl ?_
  refine j_iconst 2 (v := 0) dX11_law_1 rfl rfl ?_
  refine j_iconst 3 (v := 1) dX11_law_2 rfl rfl ?_
  refine j_st3f 6 dX11_law_3 rfl rfl cl_X11_86 rfl (c_within m _ 0 1) ?_
  refine j_if_ne_bz 16 9 dX11_law_6 rfl rfl (fun h6 => ?_) (fun h6 => absurd (by decide) h6)
  refine j_iload1 17 dX11_law_16 rfl ?_
  refine j_if_ne 37 20 dX11_law_17 rfl rfl (fun h17 => ?_) (fun h17 => absurd h17 (by decide))
  refine j_aload0 38 dX11_law_37 rfl ?_
  refine j_getR 41 dX11_law_38 rfl fl_X11_48 rfl rfl ?_
  refine j_getR 44 dX11_law_41 rfl fl_X11_187 rfl rfl ?_
  refine j_iload2 45 dX11_law_44 rfl ?_
  refine j_iload3 46 dX11_law_45 rfl ?_
  refine j_iload4 48 dX11_law_46 rfl ?_
  refine j_vi3s 51 dX11_law_48 rfl rfl cl_X11_199 rfl rfl (c_gives_43 m d a b c w.t1 hP.2.2.2.2.2.2) (fun m48 q48 => ?_)
  refine j_iret dX11_law_51 rfl ?_
  exact ⟨rfl, q48.mono (by decide)⟩
set_option maxRecDepth 100000 in
theorem p_law_1 (m : Mem) (w : WF (m 69)) (a b c : Int32) : JM l g 3 mX12_law [rf g 68, .int 1, .int a, .int b, .int c] m (RS (some (.int (textG (m 69) 1 a b c))) (MK m)) := by
  refine JM_of (ls := [some (rf g 68), some (.int 1), some (.int a), some (.int b), some (.int c)]) pn_X12 rfl rfl ?_
  refine j_iload1 1 dX12_law_0 rfl ?_
  refine j_i2l 2 dX12_law_1 rfl ?_
  refine j_lconst 3 (v := 0) dX12_law_2 rfl rfl ?_
  refine j_lconst 4 (v := 1) dX12_law_3 rfl rfl ?_
  refine j_st3f 7 dX12_law_4 rfl rfl cl_X12_47 rfl (c_in m _ 0 1) ?_
  refine j_if_eq_bz 22 10 dX12_law_7 rfl rfl (fun h7 => absurd (by decide) h7) (fun h7 => ?_)
  refine j_aload0 11 dX12_law_10 rfl ?_
  refine j_iload1 12 dX12_law_11 rfl ?_
  refine j_iload2 13 dX12_law_12 rfl ?_
  refine j_iload3 14 dX12_law_13 rfl ?_
  refine j_iload4 16 dX12_law_14 rfl ?_
  refine j_vi4s 19 dX12_law_16 rfl rfl cl_X12_142 rfl rfl (c_textG_1 m a b c w.t1) (fun m16 q16 => ?_)
  refine j_goto 27 dX12_law_19 rfl ?_
  refine j_iret dX12_law_27 rfl ?_
  exact ⟨rfl, q16 69 (by decide), q16.mono (by decide)⟩
set_option maxRecDepth 100000 in
theorem e_law (m : Mem) (u a b c : Int32) (h : ¬ (0 ≤ u ∧ u ≤ 1)) : JM l g 2 mX11_law [rf g 0, .int u, .int a, .int b, .int c] m (RF (some (.int (-1000000001))) (errC 1 m)) := by
  refine JM_of (ls := [some (rf g 0), some (.int u), some (.int a), some (.int b), some (.int c)]) pn_X11 rfl rfl ?_
  refine j_iload1 1 dX11_law_0 rfl ?_
  refine j_iconst 2 (v := 0) dX11_law_1 rfl rfl ?_
  refine j_iconst 3 (v := 1) dX11_law_2 rfl rfl ?_
  refine j_st3f 6 dX11_law_3 rfl rfl cl_X11_86 rfl (c_within m u 0 1) ?_
  refine j_if_ne_bz 16 9 dX11_law_6 rfl rfl (fun h6 => absurd h6 h) (fun h6 => ?_)
  refine j_aload0 10 dX11_law_9 rfl ?_
  refine j_ldc 12 dX11_law_10 rfl kc_X11_81 ?_
  refine j_vi1f 15 dX11_law_12 rfl rfl cl_X11_82 rfl rfl (c_err1 m) ?_
  refine j_iret dX11_law_15 rfl ?_
  exact ⟨rfl, rfl⟩
set_option maxRecDepth 100000 in
theorem f_law (m : Mem) (u a b c : Int32) (h : ¬ (0 ≤ u ∧ u ≤ 1)) : JM l g 2 mX12_law [rf g 68, .int u, .int a, .int b, .int c] m (RF (some (.int (-1000000001))) (errM 1 m)) := by
  refine JM_of (ls := [some (rf g 68), some (.int u), some (.int a), some (.int b), some (.int c)]) pn_X12 rfl rfl ?_
  refine j_iload1 1 dX12_law_0 rfl ?_
  refine j_i2l 2 dX12_law_1 rfl ?_
  refine j_lconst 3 (v := 0) dX12_law_2 rfl rfl ?_
  refine j_lconst 4 (v := 1) dX12_law_3 rfl rfl ?_
  refine j_st3f 7 dX12_law_4 rfl rfl cl_X12_47 rfl (c_in m u 0 1) ?_
  refine j_if_eq_bz 22 10 dX12_law_7 rfl rfl (fun h7 => ?_) (fun h7 => absurd h7 h)
  refine j_aload0 23 dX12_law_22 rfl ?_
  refine j_iconst 24 (v := 1) dX12_law_23 rfl rfl ?_
  refine j_vi1f 27 dX12_law_24 rfl rfl cl_X12_126 rfl rfl (c_finds1 m) ?_
  refine j_iret dX12_law_27 rfl ?_
  exact ⟨rfl, rfl⟩
theorem op_law {m : Mem} (I : INV m) (u a b c : Int32) : OPr l g mX11_law mX12_law [.int u, .int a, .int b, .int c] m := by
  obtain ⟨⟨wf, hd, hT, hP⟩, -⟩ := id I
  by_cases h : 0 ≤ u ∧ u ≤ 1
  · by_cases u0 : u = 0
    · subst u0
      refine OPr_ask (d2 := 3) I (by decide) (by decide) (o_law_0 m (m 69) wf hP a b c) (fun m' s => ?_)
      have e := dn s
      have hq := p_law_0 (l := l) (g := g) m' (by rw [e]; exact wf) a b c
      rw [e] at hq
      exact hq
    · have u1 := w01 h.1 h.2 u0
      subst u1
      refine OPr_ask (d2 := 3) I (by decide) (by decide) (o_law_1 m (m 69) wf hP a b c) (fun m' s => ?_)
      have e := dn s
      have hq := p_law_1 (l := l) (g := g) m' (by rw [e]; exact wf) a b c
      rw [e] at hq
      exact hq
  · exact OPr_err I (by decide) (by decide) (by decide) (e_law m u a b c h) (f_law _ u a b c h)
set_option maxRecDepth 100000 in
theorem lp_feed {Q : Option Value → Mem → Prop} (x : Int64) (F : Nat → Int32) (hF : FH x F) (d : Nat → Int32) (w : WF d) (T n : Nat) (hT6 : d 6 = nI T) (hn : n ≤ 8) (hTn : T + n ≤ 50) (m0 : Mem) (kk : ∀ m', PR 36 m' (fdN d F T n) → Sm [36, 37] m0 m' → Q (some (.int (nI (T + n)))) m') : ∀ (k i : Nat) (m : Mem), i + k = n → PR 36 m (fdN d F T i) → Sm [36, 37] m0 m → J l g 2 mX11_feed 41 [some (rf g 0), some (.long x), none, some (.int (nI n)), some (.int (nI i))] [] m Q := by
  intro k
  induction k with
  | zero =>
    intro i m e hP hs
    have e : i = n := by omega
    subst e
    have e6 : m 36 4 = nI (T + i) := hP.1.trans (fdN_6 hT6 i)
    refine j_iload4 43 dX11_feed_41 rfl ?_
    refine j_iload3 44 dX11_feed_43 rfl ?_
    refine j_cmp_ge 72 47 dX11_feed_44 rfl rfl (fun h44 => ?_) (fun h44 => absurd (Int32.le_refl _) h44)
    refine j_aload0 73 dX11_feed_72 rfl ?_
    refine j_getR 76 dX11_feed_73 rfl fl_X11_48 rfl rfl ?_
    refine j_getI 79 dX11_feed_76 rfl fl_X11_174 rfl rfl ?_
    refine j_iret dX11_feed_79 rfl ?_
    rw [e6]; exact kk m hP hs
  | succ k ih =>
    intro i m e hP hs
    have e2 : nI i + 1 = nI (i + 1) := nI_1 i
    have hi := hF i (by omega)
    have wi := WF_fdN (F := F) (T := T) w i (by omega) (fun j hj => (hF j (by omega)).2.2)
    have e6 : m 36 4 = nI (T + i) := hP.1.trans (fdN_6 hT6 i)
    refine j_iload4 43 dX11_feed_41 rfl ?_
    refine j_iload3 44 dX11_feed_43 rfl ?_
    refine j_cmp_ge 72 47 dX11_feed_44 rfl rfl (fun h44 => absurd h44 (nI_ge (a := i) (b := n) (by omega) (by omega))) (fun h44 => ?_)
    refine j_aload0 48 dX11_feed_47 rfl ?_
    refine j_getR 51 dX11_feed_48 rfl fl_X11_48 rfl rfl ?_
    refine j_lload1 52 dX11_feed_51 rfl ?_
    refine j_bipush 54 (v := nI 8) dX11_feed_52 rfl rfl ?_
    refine j_iload4 56 dX11_feed_54 rfl ?_
    refine j_imulN 57 dX11_feed_56 rfl ?_
    refine j_lushr 58 dX11_feed_57 rfl ?_
    refine j_ldc2 61 dX11_feed_58 rfl kl_X11_177 ?_
    refine j_land 62 dX11_feed_61 rfl ?_
    refine j_l2i 63 dX11_feed_62 rfl ?_
    refine j_top hi.1 ?_
    refine j_vi1v 66 dX11_feed_63 rfl rfl cl_X11_179 rfl rfl (c_ptake m (T + i) (F i) (by omega) e6) ?_
    refine j_iinc4 69 (1) dX11_feed_66 rfl rfl rfl rfl ?_
    refine j_goto 41 dX11_feed_69 rfl ?_
    rw [e2]
    exact ih (i + 1) _ (by omega) (PR_fd1 wi hP (by omega)) ((hs.up (by decide)).up (by decide))
set_option maxRecDepth 100000 in
theorem lm_feed {Q : Option Value → Mem → Prop} (x : Int64) (F : Nat → Int32) (hF : FH x F) (d : Nat → Int32) (T n : Nat) (hT6 : d 6 = nI T) (hn : n ≤ 8) (hTn : T + n ≤ 50) (m0 : Mem) (kk : ∀ m', m' 69 = fdN d F T n → Sm [69] m0 m' → Q (some (.int (nI (T + n)))) m') : ∀ (k i : Nat) (m : Mem), i + k = n → m 69 = fdN d F T i → Sm [69] m0 m → J l g 2 mX12_feed 41 [some (rf g 68), some (.long x), none, some (.int (nI n)), some (.int (nI i))] [] m Q := by
  intro k
  induction k with
  | zero =>
    intro i m e hm hs
    have e : i = n := by omega
    subst e
    have e6 : m 69 6 = nI (T + i) := by rw [hm]; exact fdN_6 hT6 i
    refine j_iload4 43 dX12_feed_41 rfl ?_
    refine j_iload3 44 dX12_feed_43 rfl ?_
    refine j_cmp_ge 92 47 dX12_feed_44 rfl rfl (fun h44 => ?_) (fun h44 => absurd (Int32.le_refl _) h44)
    refine j_aload0 93 dX12_feed_92 rfl ?_
    refine j_getR 96 dX12_feed_93 rfl fl_X12_7 rfl rfl ?_
    refine j_bipush 98 (v := 6) dX12_feed_96 rfl rfl ?_
    refine j_iald 99 6 rfl (by first | assumption | decide | omega) dX12_feed_98 rfl rfl ?_
    refine j_iret dX12_feed_99 rfl ?_
    rw [e6]; exact kk m hm hs
  | succ k ih =>
    intro i m e hm hs
    have e2 : nI i + 1 = nI (i + 1) := nI_1 i
    have hi := hF i (by omega)
    have e6 : m 69 6 = nI (T + i) := by rw [hm]; exact fdN_6 hT6 i
    have r69 : up2 (up2 m 69 (210 + (T + i)) (F i)) 69 6 (nI (T + i + 1)) 69 = fdN d F T (i + 1) := by rw [up2_row69, up2_row69, hm]; rfl
    refine j_iload4 43 dX12_feed_41 rfl ?_
    refine j_iload3 44 dX12_feed_43 rfl ?_
    refine j_cmp_ge 92 47 dX12_feed_44 rfl rfl (fun h44 => absurd h44 (nI_ge (a := i) (b := n) (by omega) (by omega))) (fun h44 => ?_)
    refine j_aload0 48 dX12_feed_47 rfl ?_
    refine j_getR 51 dX12_feed_48 rfl fl_X12_7 rfl rfl ?_
    refine j_sipush 54 (v := nI 210) dX12_feed_51 rfl rfl ?_
    refine j_aload0 55 dX12_feed_54 rfl ?_
    refine j_getR 58 dX12_feed_55 rfl fl_X12_7 rfl rfl ?_
    refine j_bipush 60 (v := 6) dX12_feed_58 rfl rfl ?_
    refine j_iald 61 6 rfl (by first | assumption | decide | omega) dX12_feed_60 rfl rfl ?_
    refine j_top e6 ?_
    refine j_iaddN 62 dX12_feed_61 rfl ?_
    refine j_lload1 63 dX12_feed_62 rfl ?_
    refine j_bipush 65 (v := nI 8) dX12_feed_63 rfl rfl ?_
    refine j_iload4 67 dX12_feed_65 rfl ?_
    refine j_imulN 68 dX12_feed_67 rfl ?_
    refine j_lshr 69 dX12_feed_68 rfl ?_
    refine j_ldc2 72 dX12_feed_69 rfl kl_X12_129 ?_
    refine j_land 73 dX12_feed_72 rfl ?_
    refine j_l2i 74 dX12_feed_73 rfl ?_
    refine j_top hi.2.1 ?_
    refine j_iast 75 (210 + (T + i)) rfl (show 210 + (T + i) < 260 by omega) dX12_feed_74 rfl rfl ?_
    refine j_aload0 76 dX12_feed_75 rfl ?_
    refine j_getR 79 dX12_feed_76 rfl fl_X12_7 rfl rfl ?_
    refine j_bipush 81 (v := nI 6) dX12_feed_79 rfl rfl ?_
    refine j_dup2 82 dX12_feed_81 rfl rfl rfl ?_
    refine j_iald 83 6 rfl (by decide) dX12_feed_82 rfl rfl ?_
    refine j_top ((up2_k (by omega)).trans e6) ?_
    refine j_iconst 84 (v := 1) dX12_feed_83 rfl rfl ?_
    refine j_iadd 85 dX12_feed_84 rfl ?_
    refine j_top (nI_1 (T + i)) ?_
    refine j_iast 86 6 rfl (by decide) dX12_feed_85 rfl rfl ?_
    refine j_iinc4 89 (1) dX12_feed_86 rfl rfl rfl rfl ?_
    refine j_goto 41 dX12_feed_89 rfl ?_
    rw [e2]
    exact ih (i + 1) _ (by omega) r69 ((hs.up (by decide)).up (by decide))
set_option maxRecDepth 100000 in
theorem e_feed (m : Mem) (x : Int64) (n : Int32) (c : ¬ (1 ≤ n ∧ n ≤ 8)) : JM l g 2 mX11_feed [rf g 0, .long x, .int n] m (RF (some (.int (-1000000001))) (errC 1 m)) := by
  refine JM_of (ls := [some (rf g 0), some (.long x), none, some (.int n), none]) pn_X11 rfl rfl ?_
  refine j_iload3 1 dX11_feed_0 rfl ?_
  refine j_iconst 2 (v := 1) dX11_feed_1 rfl rfl ?_
  refine j_bipush 4 (v := 8) dX11_feed_2 rfl rfl ?_
  refine j_st3f 7 dX11_feed_4 rfl rfl cl_X11_86 rfl (c_within m n 1 8) ?_
  refine j_if_ne_bz 17 10 dX11_feed_7 rfl rfl (fun h7 => absurd h7 c) (fun h7 => ?_)
  refine j_aload0 11 dX11_feed_10 rfl ?_
  refine j_ldc 13 dX11_feed_11 rfl kc_X11_81 ?_
  refine j_vi1f 16 dX11_feed_13 rfl rfl cl_X11_82 rfl rfl (c_err1 m) ?_
  refine j_iret dX11_feed_16 rfl ?_
  exact ⟨rfl, rfl⟩
set_option maxRecDepth 100000 in
theorem f_feed (m : Mem) (x : Int64) (n : Int32) (c : ¬ (1 ≤ n ∧ n ≤ 8)) : JM l g 2 mX12_feed [rf g 68, .long x, .int n] m (RF (some (.int (-1000000001))) (errM 1 m)) := by
  refine JM_of (ls := [some (rf g 68), some (.long x), none, some (.int n), none]) pn_X12 rfl rfl ?_
  refine j_iload3 1 dX12_feed_0 rfl ?_
  refine j_i2l 2 dX12_feed_1 rfl ?_
  refine j_lconst 3 (v := 1) dX12_feed_2 rfl rfl ?_
  refine j_ldc2 6 dX12_feed_3 rfl kl_X12_124 ?_
  refine j_st3f 9 dX12_feed_6 rfl rfl cl_X12_47 rfl (c_in m n 1 8) ?_
  refine j_if_ne_bz 18 12 dX12_feed_9 rfl rfl (fun h9 => absurd h9 c) (fun h9 => ?_)
  refine j_aload0 13 dX12_feed_12 rfl ?_
  refine j_iconst 14 (v := 1) dX12_feed_13 rfl rfl ?_
  refine j_vi1f 17 dX12_feed_14 rfl rfl cl_X12_126 rfl rfl (c_finds1 m) ?_
  refine j_iret dX12_feed_17 rfl ?_
  exact ⟨rfl, rfl⟩
set_option maxRecDepth 100000 in
theorem e_feed4 (m : Mem) (x : Int64) (n : Int32) (c : 1 ≤ n ∧ n ≤ 8) (h : ¬ m 36 4 + n ≤ 50) : JM l g 2 mX11_feed [rf g 0, .long x, .int n] m (RF (some (.int (-1000000004))) (errC 4 m)) := by
  refine JM_of (ls := [some (rf g 0), some (.long x), none, some (.int n), none]) pn_X11 rfl rfl ?_
  refine j_iload3 1 dX11_feed_0 rfl ?_
  refine j_iconst 2 (v := 1) dX11_feed_1 rfl rfl ?_
  refine j_bipush 4 (v := 8) dX11_feed_2 rfl rfl ?_
  refine j_st3f 7 dX11_feed_4 rfl rfl cl_X11_86 rfl (c_within m n 1 8) ?_
  refine j_if_ne_bz 17 10 dX11_feed_7 rfl rfl (fun h7 => ?_) (fun h7 => absurd c h7)
  refine j_aload0 18 dX11_feed_17 rfl ?_
  refine j_getR 21 dX11_feed_18 rfl fl_X11_48 rfl rfl ?_
  refine j_getI 24 dX11_feed_21 rfl fl_X11_174 rfl rfl ?_
  refine j_iload3 25 dX11_feed_24 rfl ?_
  refine j_iadd 26 dX11_feed_25 rfl ?_
  refine j_bipush 28 (v := 50) dX11_feed_26 rfl rfl ?_
  refine j_cmp_le 38 31 dX11_feed_28 rfl rfl (fun h28 => absurd h28 h) (fun h28 => ?_)
  refine j_aload0 32 dX11_feed_31 rfl ?_
  refine j_ldc 34 dX11_feed_32 rfl kc_X11_119 ?_
  refine j_vi1f 37 dX11_feed_34 rfl rfl cl_X11_82 rfl rfl (c_err4 m) ?_
  refine j_iret dX11_feed_37 rfl ?_
  exact ⟨rfl, rfl⟩
set_option maxRecDepth 100000 in
theorem f_feed4 (m : Mem) (x : Int64) (n : Int32) (c : 1 ≤ n ∧ n ≤ 8) (h : ¬ m 69 6 + n ≤ 50) : JM l g 2 mX12_feed [rf g 68, .long x, .int n] m (RF (some (.int (-1000000004))) (errM 4 m)) := by
  refine JM_of (ls := [some (rf g 68), some (.long x), none, some (.int n), none]) pn_X12 rfl rfl ?_
  refine j_iload3 1 dX12_feed_0 rfl ?_
  refine j_i2l 2 dX12_feed_1 rfl ?_
  refine j_lconst 3 (v := 1) dX12_feed_2 rfl rfl ?_
  refine j_ldc2 6 dX12_feed_3 rfl kl_X12_124 ?_
  refine j_st3f 9 dX12_feed_6 rfl rfl cl_X12_47 rfl (c_in m n 1 8) ?_
  refine j_if_ne_bz 18 12 dX12_feed_9 rfl rfl (fun h9 => ?_) (fun h9 => absurd c h9)
  refine j_aload0 19 dX12_feed_18 rfl ?_
  refine j_getR 22 dX12_feed_19 rfl fl_X12_7 rfl rfl ?_
  refine j_bipush 24 (v := 6) dX12_feed_22 rfl rfl ?_
  refine j_iald 25 6 rfl (by first | assumption | decide | omega) dX12_feed_24 rfl rfl ?_
  refine j_iload3 26 dX12_feed_25 rfl ?_
  refine j_iadd 27 dX12_feed_26 rfl ?_
  refine j_bipush 29 (v := 50) dX12_feed_27 rfl rfl ?_
  refine j_cmp_le 38 32 dX12_feed_29 rfl rfl (fun h29 => absurd h29 h) (fun h29 => ?_)
  refine j_aload0 33 dX12_feed_32 rfl ?_
  refine j_iconst 34 (v := 4) dX12_feed_33 rfl rfl ?_
  refine j_vi1f 37 dX12_feed_34 rfl rfl cl_X12_126 rfl rfl (c_finds4 m) ?_
  refine j_iret dX12_feed_37 rfl ?_
  exact ⟨rfl, rfl⟩
set_option maxRecDepth 100000 in
theorem o_feed (m : Mem) (x : Int64) (F : Nat → Int32) (hF : FH x F) (d : Nat → Int32) (w : WF d) (hP : PR 36 m d) (T n : Nat) (hT6 : d 6 = nI T) (hn : n ≤ 8) (hTn : T + n ≤ 50) (c : 1 ≤ nI n ∧ nI n ≤ 8) (h : m 36 4 + nI n ≤ 50) : JM l g 2 mX11_feed [rf g 0, .long x, .int (nI n)] m (RS (some (.int (nI (T + n)))) (fun m' => PR 36 m' (fdN d F T n) ∧ Sm [36, 37] m m')) := by
  refine JM_of (ls := [some (rf g 0), some (.long x), none, some (.int (nI n)), none]) pn_X11 rfl rfl ?_
  refine j_iload3 1 dX11_feed_0 rfl ?_
  refine j_iconst 2 (v := 1) dX11_feed_1 rfl rfl ?_
  refine j_bipush 4 (v := 8) dX11_feed_2 rfl rfl ?_
  refine j_st3f 7 dX11_feed_4 rfl rfl cl_X11_86 rfl (c_within m _ 1 8) ?_
  refine j_if_ne_bz 17 10 dX11_feed_7 rfl rfl (fun h7 => ?_) (fun h7 => absurd c h7)
  refine j_aload0 18 dX11_feed_17 rfl ?_
  refine j_getR 21 dX11_feed_18 rfl fl_X11_48 rfl rfl ?_
  refine j_getI 24 dX11_feed_21 rfl fl_X11_174 rfl rfl ?_
  refine j_iload3 25 dX11_feed_24 rfl ?_
  refine j_iadd 26 dX11_feed_25 rfl ?_
  refine j_bipush 28 (v := 50) dX11_feed_26 rfl rfl ?_
  refine j_cmp_le 38 31 dX11_feed_28 rfl rfl (fun h28 => ?_) (fun h28 => absurd h h28)
  refine j_iconst 39 (v := 0) dX11_feed_38 rfl rfl ?_
  refine j_istore4 41 dX11_feed_39 rfl rfl rfl ?_
  exact lp_feed x F hF d w T n hT6 hn hTn m (fun m' a b => ⟨rfl, a, b⟩) n 0 m (Nat.zero_add _) hP Sm.rf
set_option maxRecDepth 100000 in
theorem p_feed (m : Mem) (x : Int64) (F : Nat → Int32) (hF : FH x F) (T n : Nat) (hT6 : m 69 6 = nI T) (hn : n ≤ 8) (hTn : T + n ≤ 50) (c : 1 ≤ nI n ∧ nI n ≤ 8) (h : m 69 6 + nI n ≤ 50) : JM l g 2 mX12_feed [rf g 68, .long x, .int (nI n)] m (RS (some (.int (nI (T + n)))) (fun m' => m' 69 = fdN (m 69) F T n ∧ Sm [69] m m')) := by
  refine JM_of (ls := [some (rf g 68), some (.long x), none, some (.int (nI n)), none]) pn_X12 rfl rfl ?_
  refine j_iload3 1 dX12_feed_0 rfl ?_
  refine j_i2l 2 dX12_feed_1 rfl ?_
  refine j_lconst 3 (v := 1) dX12_feed_2 rfl rfl ?_
  refine j_ldc2 6 dX12_feed_3 rfl kl_X12_124 ?_
  refine j_st3f 9 dX12_feed_6 rfl rfl cl_X12_47 rfl (c_in m _ 1 8) ?_
  refine j_if_ne_bz 18 12 dX12_feed_9 rfl rfl (fun h9 => ?_) (fun h9 => absurd c h9)
  refine j_aload0 19 dX12_feed_18 rfl ?_
  refine j_getR 22 dX12_feed_19 rfl fl_X12_7 rfl rfl ?_
  refine j_bipush 24 (v := 6) dX12_feed_22 rfl rfl ?_
  refine j_iald 25 6 rfl (by first | assumption | decide | omega) dX12_feed_24 rfl rfl ?_
  refine j_iload3 26 dX12_feed_25 rfl ?_
  refine j_iadd 27 dX12_feed_26 rfl ?_
  refine j_bipush 29 (v := 50) dX12_feed_27 rfl rfl ?_
  refine j_cmp_le 38 32 dX12_feed_29 rfl rfl (fun h29 => ?_) (fun h29 => absurd h h29)
  refine j_iconst 39 (v := 0) dX12_feed_38 rfl rfl ?_
  refine j_istore4 41 dX12_feed_39 rfl rfl rfl ?_
  exact lm_feed x F hF (m 69) T n hT6 hn hTn m (fun m' a b => ⟨rfl, a, b⟩) n 0 m (Nat.zero_add _) rfl Sm.rf
theorem op_feed {m : Mem} (I : INV m) (x : Int64) (n : Int32) : OPr l g mX11_feed mX12_feed [.long x, .int n] m := by
  obtain ⟨F, hF⟩ := FH_ex x
  obtain ⟨⟨wf, hd, hT, hP⟩, -⟩ := id I
  by_cases c : 1 ≤ n ∧ n ≤ 8
  · by_cases h : m 69 6 + n ≤ 50
    · obtain ⟨i, hi, rfl⟩ := (rngN 8 (by decide)).mp ⟨Int32.le_trans (by decide) c.1, c.2⟩
      obtain ⟨T, hT1, hT6⟩ := wf.2.2.2.2.1
      have hTn : T + i ≤ 50 := by
        have h2 := h
        rw [hT6, nI_add] at h2
        exact (nI_leI (a := T + i) (b := 50) (by omega) (by decide)).mp h2
      refine ⟨2, 2, _, _, by decide, by decide, o_feed m x F hF (m 69) wf hP T i hT6 hi hTn c (by rw [hP.1]; exact h), fun m' e => ?_⟩
      obtain ⟨e1, e2⟩ := e
      have e69 : m' 69 = m 69 := e2 69 (by decide)
      have hq := p_feed (l := l) (g := g) m' x F hF T i (by rw [e69]; exact hT6) hi hTn c (by rw [e69]; exact h)
      rw [e69] at hq
      refine hq.mono (RS_w (fun m2 q => ?_))
      obtain ⟨q1, q2⟩ := q
      have o : ∀ b, b ≠ 69 → b ≠ 36 → b ≠ 37 → m2 b = m b := fun b h1 h2 h3 => (q2 b (by simp; omega)).trans (e2 b (by simp; omega))
      refine INV_new I (fun b hb => o b (fun q => by subst q; exact absurd hb (by decide)) (fun q => by subst q; exact absurd hb (by decide)) (fun q => by subst q; exact absurd hb (by decide))) (o 68 (by decide) (by decide) (by decide)) ⟨by rw [q1]; exact WF_fdN wf i hTn (fun j hj => (hF j (by omega)).2.2), by rw [q1, fdN_k (by decide) (by decide)]; exact hd, ?_, ?_⟩
      · rw [q1]
        exact TR_d (TR_same hT (fun b b1 b2 => o b (by omega) (by omega) (by omega))) (fun k h1 h2 => fdN_k (by omega) (by omega) i)
      · rw [q1]
        exact PR_same e1 (fun b hb => q2 b (by simp; omega))
    · exact OPr_err I (by decide) (by decide) (by decide) (e_feed4 m x n c (by rw [hP.1]; exact h)) (f_feed4 _ x n c (by rw [errC_o (by decide)]; exact h))
  · exact OPr_err I (by decide) (by decide) (by decide) (e_feed m x n c) (f_feed _ x n c)
end O28
