/-! sets of HEIRS as bits -/
def sN (P : Nat → Prop) [DecidablePred P] : Nat → Nat
  | 0 => 0
  | n + 1 => if P n then sN P n + 2 ^ n else sN P n
def cN (P : Nat → Prop) [DecidablePred P] : Nat → Nat
  | 0 => 0
  | n + 1 => cN P n + (if P n then 1 else 0)
def pcN (s : Nat) : Nat := s % 2 + s / 2 % 2 + s / 4 % 2 + s / 8 % 2 + s / 16 % 2 + s / 32 % 2 + s / 64 % 2 + s / 128 % 2
theorem or_bit : ∀ n : Fin 8, ∀ s : Fin 128, s.val < 2 ^ n.val → nI s.val ||| ((1 : Int32) <<< (nI n.val &&& 31)) = nI (s.val + 2 ^ n.val) := by decide +kernel
theorem pc_add : ∀ n : Fin 8, ∀ s : Fin 128, s.val < 2 ^ n.val → pcN (s.val + 2 ^ n.val) = pcN s.val + 1 := by decide +kernel
theorem bc_pc : ∀ s : Fin 256, bcF (nI s.val) = nI (pcN s.val) := by decide +kernel
theorem sN_lt (P : Nat → Prop) [DecidablePred P] : ∀ n, sN P n < 2 ^ n
  | 0 => by show 0 < 1; decide
  | n + 1 => by
    have := sN_lt P n
    unfold sN
    rw [Nat.pow_succ]
    split <;> omega
theorem p128 {n : Nat} (h : n < 8) : 2 ^ n ≤ 128 := by
  rcases (show n = 0 ∨ n = 1 ∨ n = 2 ∨ n = 3 ∨ n = 4 ∨ n = 5 ∨ n = 6 ∨ n = 7 by omega) with rfl | rfl | rfl | rfl | rfl | rfl | rfl | rfl <;> decide
theorem setF_sN (P : Nat → Prop) [DecidablePred P] : ∀ n, n ≤ 8 → setF P n = nI (sN P n)
  | 0, _ => rfl
  | n + 1, h => by
    have ih := setF_sN P n (by omega)
    have l1 := sN_lt P n
    have l2 := p128 (n := n) (by omega)
    unfold setF sN
    by_cases q : P n
    · rw [if_pos q, if_pos q, ih]
      exact or_bit ⟨n, by omega⟩ ⟨sN P n, by omega⟩ l1
    · rw [if_neg q, if_neg q, ih]
theorem pc_sN (P : Nat → Prop) [DecidablePred P] : ∀ n, n ≤ 8 → pcN (sN P n) = cN P n
  | 0, _ => by show pcN 0 = 0; decide
  | n + 1, h => by
    have ih := pc_sN P n (by omega)
    have l1 := sN_lt P n
    have l2 := p128 (n := n) (by omega)
    unfold sN cN
    by_cases q : P n
    · rw [if_pos q, if_pos q, pc_add ⟨n, by omega⟩ ⟨sN P n, by omega⟩ l1, ih]
    · rw [if_neg q, if_neg q, ih]; rfl
theorem bc_set (P : Nat → Prop) [DecidablePred P] {n : Nat} (h : n ≤ 8) : bcF (setF P n) = nI (cN P n) := by
  have l1 := sN_lt P n
  have l2 : 2 ^ n ≤ 256 := Nat.pow_le_pow_right (by decide) h
  rw [setF_sN P n h, ← pc_sN P n h]
  exact bc_pc ⟨sN P n, by omega⟩
theorem cN_cnt (d : Nat → Int32) : ∀ n, cN (fun h => hf d h 3 = 0) n = cntF d n
  | 0 => rfl
  | n + 1 => by
    have ih := cN_cnt d n
    unfold cN cntF
    rw [ih]
theorem setF_congr {P R : Nat → Prop} [DecidablePred P] [DecidablePred R] : ∀ {n : Nat}, (∀ h, h < n → (P h ↔ R h)) → setF P n = setF R n
  | 0, _ => rfl
  | n + 1, e => by
    have ih := setF_congr (P := P) (R := R) (n := n) (fun h hh => e h (by omega))
    unfold setF
    rw [ih]
    by_cases q : P n
    · rw [if_pos q, if_pos ((e n (by omega)).mp q)]
    · rw [if_neg q, if_neg (fun z => q ((e n (by omega)).mpr z))]
theorem setF_t {P : Nat → Prop} [DecidablePred P] {n : Nat} (q : P n) : setF P n ||| ((1 : Int32) <<< (nI n &&& 31)) = setF P (n + 1) := by
  show _ = if P n then _ else _
  rw [if_pos q]
theorem setF_f {P : Nat → Prop} [DecidablePred P] {n : Nat} (q : ¬ P n) : setF P n = setF P (n + 1) := by
  show _ = if P n then _ else _
  rw [if_neg q]
theorem setF_f0 {P : Nat → Prop} [DecidablePred P] {n : Nat} (q : ¬ P n) : setF P n ||| 0 = setF P (n + 1) := by
  rw [← setF_f q]
  apply Int32.toBitVec_inj.mp
  show (setF P n).toBitVec ||| 0#32 = _
  exact BitVec.or_zero
/-- the class's Town at cell t is the row d -/
def TR (t : Nat) (m : Mem) (d : Nat → Int32) : Prop := m t 9 = d 0 ∧ m t 10 = d 2 ∧ m t 11 = d 3 ∧ m t 12 = d 4 ∧ m t 13 = d 1 ∧ (∀ i, i < 16 → m (t + 1) i = d (8 + i)) ∧ (∀ i, i < 16 → m (t + 2) i = d (24 + i)) ∧ ∀ h, h < 8 → ∀ r, r < 6 → m (t + 3 + r) h = hf d h r
theorem TR_next {t h : Nat} {f : Nat → Nat → Int32} {d : Nat → Int32} {m m' : Mem} (hT : TR t m (ppu f h d)) (h1 : m' t = m t) (h2 : m' (t + 1) = m (t + 1)) (h3 : m' (t + 2) = m (t + 2)) (h4 : ∀ r, r < 6 → ∀ i, i < 8 → i ≠ h → m' (t + 3 + r) i = m (t + 3 + r) i) (h5 : ∀ r, r < 6 → m' (t + 3 + r) h = f h r) : TR t m' (ppu f (h + 1) d) := by
  obtain ⟨t9, t10, t11, t12, t13, ts, tt, th⟩ := hT
  have lo : ∀ k, k < 40 → ppu f (h + 1) d k = ppu f h d k := fun k hk => by rw [ppu_lo hk, ppu_lo hk]
  refine ⟨by rw [h1, lo 0 (by decide)]; exact t9, by rw [h1, lo 2 (by decide)]; exact t10, by rw [h1, lo 3 (by decide)]; exact t11, by rw [h1, lo 4 (by decide)]; exact t12, by rw [h1, lo 1 (by decide)]; exact t13, fun i hi => by rw [h2, lo _ (by omega)]; exact ts i hi, fun i hi => by rw [h3, lo _ (by omega)]; exact tt i hi, fun i hi r hr => ?_⟩
  rw [ppu_hf hr]
  by_cases q : i = h
  · subst q
    rw [if_pos (by omega)]
    exact h5 r hr
  · rw [h4 r hr i hi q, th i hi r hr, ppu_hf hr]
    by_cases z : i < h
    · rw [if_pos z, if_pos (by omega)]
    · rw [if_neg z, if_neg (by omega)]
theorem TR_same {t : Nat} {d : Nat → Int32} {m m' : Mem} (hT : TR t m d) (h : ∀ b, t ≤ b → b < t + 9 → m' b = m b) : TR t m' d := by
  obtain ⟨t9, t10, t11, t12, t13, ts, tt, th⟩ := hT
  have e0 := h t (by omega) (by omega)
  refine ⟨by rw [e0]; exact t9, by rw [e0]; exact t10, by rw [e0]; exact t11, by rw [e0]; exact t12, by rw [e0]; exact t13, fun i hi => by rw [h _ (by omega) (by omega)]; exact ts i hi, fun i hi => by rw [h _ (by omega) (by omega)]; exact tt i hi, fun i hi r hr => by rw [h _ (by omega) (by omega)]; exact th i hi r hr⟩
section CD0
variable {l : Launch} {g : Gv}
set_option maxRecDepth 100000 in
theorem c_setLeft_9 (m : Mem) (h : Nat) (v : Int32) (hh : h < 8) : JM l g 0 mX10_setLeft [rf g 9, .int (nI h), .int v] m (RF none (up2 (up2 m 15 h v) 16 h (if v = 0 then m 14 h else -1))) := by
  refine JM_of (ls := [some (rf g 9), some (.int (nI h)), some (.int v)]) pn_X10 rfl rfl ?_
  refine j_aload0 1 dX10_setLeft_0 rfl ?_
  refine j_getR 4 dX10_setLeft_1 rfl fl_X10_27 rfl rfl ?_
  refine j_iload1 5 dX10_setLeft_4 rfl ?_
  refine j_iload2 6 dX10_setLeft_5 rfl ?_
  refine j_iast 7 _ rfl hh dX10_setLeft_6 rfl rfl ?_
  refine j_aload0 8 dX10_setLeft_7 rfl ?_
  refine j_getR 11 dX10_setLeft_8 rfl fl_X10_30 rfl rfl ?_
  refine j_iload1 12 dX10_setLeft_11 rfl ?_
  refine j_iload2 13 dX10_setLeft_12 rfl ?_
  refine j_if_ne 25 16 dX10_setLeft_13 rfl rfl (fun h13 => ?_) (fun h13 => ?_)
  · refine j_iconst 26 (v := -1) dX10_setLeft_25 rfl rfl ?_
    refine j_iast 27 _ rfl hh dX10_setLeft_26 rfl rfl ?_
    refine j_vret dX10_setLeft_27 rfl ?_
    first | exact ⟨rfl, by rw [if_neg h13]⟩ | exact ⟨rfl, by rw [if_pos h13, up2_a (by decide)]⟩
  · refine j_aload0 17 dX10_setLeft_16 rfl ?_
    refine j_getR 20 dX10_setLeft_17 rfl fl_X10_24 rfl rfl ?_
    refine j_iload1 21 dX10_setLeft_20 rfl ?_
    refine j_iald 22 _ rfl (by first | assumption | decide | omega) dX10_setLeft_21 rfl rfl ?_
    refine j_goto 26 dX10_setLeft_22 rfl ?_
    refine j_iast 27 _ rfl hh dX10_setLeft_26 rfl rfl ?_
    refine j_vret dX10_setLeft_27 rfl ?_
    first | exact ⟨rfl, by rw [if_neg h13]⟩ | exact ⟨rfl, by rw [if_pos h13, up2_a (by decide)]⟩
set_option maxRecDepth 100000 in
theorem lp_drift_9 {Q : Option Value → Mem → Prop} (d : Nat → Int32) (w : WF d) (m : Mem) (h c : Nat) (hh : h < 8) (hc : c < 2 ^ 31) (ht : ∀ i, i < 16 → m 11 i = d (24 + i)) : ∀ (k i : Nat) (s : Int32), i + k = c → nb s 16 → Q none (up2 m 16 h (itT d k s)) → J l g 0 mX10_drift 10 [some (rf g 9), some (.int (nI h)), some (.int (nI c)), some (.int s), some (.int (nI i))] [] m Q := by
  intro k
  induction k with
  | zero =>
    intro i s e hs hq
    have e : i = c := by omega
    subst e
    refine j_iload4 12 dX10_drift_10 rfl ?_
    refine j_iload2 13 dX10_drift_12 rfl ?_
    refine j_cmp_ge 39 16 dX10_drift_13 rfl rfl (fun h13 => ?_) (fun h13 => absurd (Int32.le_refl _) h13)
    refine j_aload0 40 dX10_drift_39 rfl ?_
    refine j_getR 43 dX10_drift_40 rfl fl_X10_30 rfl rfl ?_
    refine j_iload1 44 dX10_drift_43 rfl ?_
    refine j_iload3 45 dX10_drift_44 rfl ?_
    refine j_iast 46 _ rfl hh dX10_drift_45 rfl rfl ?_
    refine j_vret dX10_drift_46 rfl ?_
    exact hq
  | succ k ih =>
    intro i s e hs hq
    obtain ⟨j, hj, rfl⟩ := hs
    have e2 : nI i + 1 = nI (i + 1) := nI_1 i
    have eto := ht j hj
    refine j_iload4 12 dX10_drift_10 rfl ?_
    refine j_iload2 13 dX10_drift_12 rfl ?_
    refine j_cmp_ge 39 16 dX10_drift_13 rfl rfl (fun h13 => absurd h13 (nI_ge (by omega) hc)) (fun h13 => ?_)
    refine j_iload3 17 dX10_drift_16 rfl ?_
    refine j_if_lt 39 20 dX10_drift_17 rfl rfl (fun h17 => absurd h17 (nI_pos (by omega))) (fun h17 => ?_)
    refine j_iload3 21 dX10_drift_20 rfl ?_
    refine j_bipush 23 (v := 16) dX10_drift_21 rfl rfl ?_
    refine j_cmp_ge 39 26 dX10_drift_23 rfl rfl (fun h23 => absurd h23 (nI_ge (a := j) (b := 16) hj (by decide))) (fun h23 => ?_)
    refine j_aload0 27 dX10_drift_26 rfl ?_
    refine j_getR 30 dX10_drift_27 rfl fl_X10_15 rfl rfl ?_
    refine j_iload3 31 dX10_drift_30 rfl ?_
    refine j_iald 32 _ rfl hj dX10_drift_31 rfl rfl ?_
    refine j_istore3 33 dX10_drift_32 rfl rfl rfl ?_
    refine j_iinc4 36 (1) dX10_drift_33 rfl rfl rfl rfl ?_
    refine j_goto 10 dX10_drift_36 rfl ?_
    rw [e2]
    refine ih (i + 1) _ (by omega) (by rw [eto]; exact w.to hj) ?_
    rw [eto]
    have hq2 : Q none (up2 m 16 h (itT d k (d (24 + (nI j).toNatClampNeg)))) := hq
    rw [nI_clamp (by omega)] at hq2
    exact hq2
set_option maxRecDepth 100000 in
theorem c_drift_9 (m : Mem) (d : Nat → Int32) (w : WF d) (h c : Nat) (hh : h < 8) (hc : c < 2 ^ 31) (ht : ∀ i, i < 16 → m 11 i = d (24 + i)) (hs : nb (m 16 h) 16) : JM l g 0 mX10_drift [rf g 9, .int (nI h), .int (nI c)] m (RF none (up2 m 16 h (itT d c (m 16 h)))) := by
  refine JM_of (ls := [some (rf g 9), some (.int (nI h)), some (.int (nI c)), none, none]) pn_X10 rfl rfl ?_
  refine j_aload0 1 dX10_drift_0 rfl ?_
  refine j_getR 4 dX10_drift_1 rfl fl_X10_30 rfl rfl ?_
  refine j_iload1 5 dX10_drift_4 rfl ?_
  refine j_iald 6 _ rfl (by first | assumption | decide | omega) dX10_drift_5 rfl rfl ?_
  refine j_istore3 7 dX10_drift_6 rfl rfl rfl ?_
  refine j_iconst 8 (v := 0) dX10_drift_7 rfl rfl ?_
  refine j_istore4 10 dX10_drift_8 rfl rfl rfl ?_
  exact lp_drift_9 d w m h c hh hc ht c 0 _ (Nat.zero_add _) hs ⟨rfl, rfl⟩
set_option maxRecDepth 100000 in
theorem lp_dust_9 {Q : Option Value → Mem → Prop} (d : Nat → Int32) (w : WF d) (m : Mem) (hT : TR 9 m d) (hq : Q (some (.int (setF (fun h => hf d h 3 = 0) (hn d)))) m) : ∀ (k h : Nat), h + k = hn d → J l g 1 mX10_dust 4 [some (rf g 9), some (.int (setF (fun h => hf d h 3 = 0) h)), some (.int (nI h))] [] m Q := by
  have wn := w.n
  have th : ∀ h, h < 8 → m 15 h = hf d h 3 := fun h hh => hT.2.2.2.2.2.2.2 h hh 3 (by decide)
  intro k
  induction k with
  | zero =>
    intro h e
    have e : h = hn d := by omega
    subst e
    refine j_iload2 5 dX10_dust_4 rfl ?_
    refine j_aload0 6 dX10_dust_5 rfl ?_
    refine j_getI 9 dX10_dust_6 rfl fl_X10_53 rfl rfl ?_
    refine j_cmp_ge 32 12 dX10_dust_9 rfl rfl (fun h9 => ?_) (fun h9 => absurd (by rw [hT.1, wn.2]; exact Int32.le_refl _) h9)
    refine j_iload1 33 dX10_dust_32 rfl ?_
    refine j_iret dX10_dust_33 rfl ?_
    exact hq
  | succ k ih =>
    intro h e
    have e2 : nI h + 1 = nI (h + 1) := nI_1 h
    refine j_iload2 5 dX10_dust_4 rfl ?_
    refine j_aload0 6 dX10_dust_5 rfl ?_
    refine j_getI 9 dX10_dust_6 rfl fl_X10_53 rfl rfl ?_
    refine j_cmp_ge 32 12 dX10_dust_9 rfl rfl (fun h9 => absurd h9 (by rw [hT.1, wn.2]; exact nI_ge (by omega) (by omega))) (fun h9 => ?_)
    refine j_aload0 13 dX10_dust_12 rfl ?_
    refine j_iload2 14 dX10_dust_13 rfl ?_
    refine j_vi1f 17 dX10_dust_14 rfl rfl cl_X10_86 rfl rfl (c_isDust_9 m h (by omega)) ?_
    refine j_if_eq_bz 26 20 dX10_dust_17 rfl rfl (fun h17 => ?_) (fun h17 => ?_)
    · refine j_iinc2 29 (1) dX10_dust_26 rfl rfl rfl rfl ?_
      refine j_goto 4 dX10_dust_29 rfl ?_
      first | rw [e2, setF_f (P := fun h => hf d h 3 = 0) (n := h) (by show ¬ hf d h 3 = 0; rw [← th h (by omega)]; exact h17)] | rw [e2, setF_t (P := fun h => hf d h 3 = 0) (n := h) (by show hf d h 3 = 0; rw [← th h (by omega)]; exact h17)]
      exact ih (h + 1) (by omega)
    · refine j_iload1 21 dX10_dust_20 rfl ?_
      refine j_iconst 22 (v := 1) dX10_dust_21 rfl rfl ?_
      refine j_iload2 23 dX10_dust_22 rfl ?_
      refine j_ishl 24 dX10_dust_23 rfl ?_
      refine j_ior 25 dX10_dust_24 rfl ?_
      refine j_istore1 26 dX10_dust_25 rfl rfl rfl ?_
      refine j_iinc2 29 (1) dX10_dust_26 rfl rfl rfl rfl ?_
      refine j_goto 4 dX10_dust_29 rfl ?_
      first | rw [e2, setF_f (P := fun h => hf d h 3 = 0) (n := h) (by show ¬ hf d h 3 = 0; rw [← th h (by omega)]; exact h17)] | rw [e2, setF_t (P := fun h => hf d h 3 = 0) (n := h) (by show hf d h 3 = 0; rw [← th h (by omega)]; exact h17)]
      exact ih (h + 1) (by omega)
set_option maxRecDepth 100000 in
theorem c_dust_9 (m : Mem) (d : Nat → Int32) (w : WF d) (hT : TR 9 m d) : JM l g 1 mX10_dust [rf g 9] m (RF (some (.int (setF (fun h => hf d h 3 = 0) (hn d)))) m) := by
  refine JM_of (ls := [some (rf g 9), none, none]) pn_X10 rfl rfl ?_
  refine j_iconst 1 (v := 0) dX10_dust_0 rfl rfl ?_
  refine j_istore1 2 dX10_dust_1 rfl rfl rfl ?_
  refine j_iconst 3 (v := 0) dX10_dust_2 rfl rfl ?_
  refine j_istore2 4 dX10_dust_3 rfl rfl rfl ?_
  exact lp_dust_9 d w m hT ⟨rfl, rfl⟩ _ 0 (Nat.zero_add _)
set_option maxRecDepth 100000 in
theorem c_setLeft_18 (m : Mem) (h : Nat) (v : Int32) (hh : h < 8) : JM l g 0 mX10_setLeft [rf g 18, .int (nI h), .int v] m (RF none (up2 (up2 m 24 h v) 25 h (if v = 0 then m 23 h else -1))) := by
  refine JM_of (ls := [some (rf g 18), some (.int (nI h)), some (.int v)]) pn_X10 rfl rfl ?_
  refine j_aload0 1 dX10_setLeft_0 rfl ?_
  refine j_getR 4 dX10_setLeft_1 rfl fl_X10_27 rfl rfl ?_
  refine j_iload1 5 dX10_setLeft_4 rfl ?_
  refine j_iload2 6 dX10_setLeft_5 rfl ?_
  refine j_iast 7 _ rfl hh dX10_setLeft_6 rfl rfl ?_
  refine j_aload0 8 dX10_setLeft_7 rfl ?_
  refine j_getR 11 dX10_setLeft_8 rfl fl_X10_30 rfl rfl ?_
  refine j_iload1 12 dX10_setLeft_11 rfl ?_
  refine j_iload2 13 dX10_setLeft_12 rfl ?_
  refine j_if_ne 25 16 dX10_setLeft_13 rfl rfl (fun h13 => ?_) (fun h13 => ?_)
  · refine j_iconst 26 (v := -1) dX10_setLeft_25 rfl rfl ?_
    refine j_iast 27 _ rfl hh dX10_setLeft_26 rfl rfl ?_
    refine j_vret dX10_setLeft_27 rfl ?_
    first | exact ⟨rfl, by rw [if_neg h13]⟩ | exact ⟨rfl, by rw [if_pos h13, up2_a (by decide)]⟩
  · refine j_aload0 17 dX10_setLeft_16 rfl ?_
    refine j_getR 20 dX10_setLeft_17 rfl fl_X10_24 rfl rfl ?_
    refine j_iload1 21 dX10_setLeft_20 rfl ?_
    refine j_iald 22 _ rfl (by first | assumption | decide | omega) dX10_setLeft_21 rfl rfl ?_
    refine j_goto 26 dX10_setLeft_22 rfl ?_
    refine j_iast 27 _ rfl hh dX10_setLeft_26 rfl rfl ?_
    refine j_vret dX10_setLeft_27 rfl ?_
    first | exact ⟨rfl, by rw [if_neg h13]⟩ | exact ⟨rfl, by rw [if_pos h13, up2_a (by decide)]⟩
set_option maxRecDepth 100000 in
theorem lp_drift_18 {Q : Option Value → Mem → Prop} (d : Nat → Int32) (w : WF d) (m : Mem) (h c : Nat) (hh : h < 8) (hc : c < 2 ^ 31) (ht : ∀ i, i < 16 → m 20 i = d (24 + i)) : ∀ (k i : Nat) (s : Int32), i + k = c → nb s 16 → Q none (up2 m 25 h (itT d k s)) → J l g 0 mX10_drift 10 [some (rf g 18), some (.int (nI h)), some (.int (nI c)), some (.int s), some (.int (nI i))] [] m Q := by
  intro k
  induction k with
  | zero =>
    intro i s e hs hq
    have e : i = c := by omega
    subst e
    refine j_iload4 12 dX10_drift_10 rfl ?_
    refine j_iload2 13 dX10_drift_12 rfl ?_
    refine j_cmp_ge 39 16 dX10_drift_13 rfl rfl (fun h13 => ?_) (fun h13 => absurd (Int32.le_refl _) h13)
    refine j_aload0 40 dX10_drift_39 rfl ?_
    refine j_getR 43 dX10_drift_40 rfl fl_X10_30 rfl rfl ?_
    refine j_iload1 44 dX10_drift_43 rfl ?_
    refine j_iload3 45 dX10_drift_44 rfl ?_
    refine j_iast 46 _ rfl hh dX10_drift_45 rfl rfl ?_
    refine j_vret dX10_drift_46 rfl ?_
    exact hq
  | succ k ih =>
    intro i s e hs hq
    obtain ⟨j, hj, rfl⟩ := hs
    have e2 : nI i + 1 = nI (i + 1) := nI_1 i
    have eto := ht j hj
    refine j_iload4 12 dX10_drift_10 rfl ?_
    refine j_iload2 13 dX10_drift_12 rfl ?_
    refine j_cmp_ge 39 16 dX10_drift_13 rfl rfl (fun h13 => absurd h13 (nI_ge (by omega) hc)) (fun h13 => ?_)
    refine j_iload3 17 dX10_drift_16 rfl ?_
    refine j_if_lt 39 20 dX10_drift_17 rfl rfl (fun h17 => absurd h17 (nI_pos (by omega))) (fun h17 => ?_)
    refine j_iload3 21 dX10_drift_20 rfl ?_
    refine j_bipush 23 (v := 16) dX10_drift_21 rfl rfl ?_
    refine j_cmp_ge 39 26 dX10_drift_23 rfl rfl (fun h23 => absurd h23 (nI_ge (a := j) (b := 16) hj (by decide))) (fun h23 => ?_)
    refine j_aload0 27 dX10_drift_26 rfl ?_
    refine j_getR 30 dX10_drift_27 rfl fl_X10_15 rfl rfl ?_
    refine j_iload3 31 dX10_drift_30 rfl ?_
    refine j_iald 32 _ rfl hj dX10_drift_31 rfl rfl ?_
    refine j_istore3 33 dX10_drift_32 rfl rfl rfl ?_
    refine j_iinc4 36 (1) dX10_drift_33 rfl rfl rfl rfl ?_
    refine j_goto 10 dX10_drift_36 rfl ?_
    rw [e2]
    refine ih (i + 1) _ (by omega) (by rw [eto]; exact w.to hj) ?_
    rw [eto]
    have hq2 : Q none (up2 m 25 h (itT d k (d (24 + (nI j).toNatClampNeg)))) := hq
    rw [nI_clamp (by omega)] at hq2
    exact hq2
set_option maxRecDepth 100000 in
theorem c_drift_18 (m : Mem) (d : Nat → Int32) (w : WF d) (h c : Nat) (hh : h < 8) (hc : c < 2 ^ 31) (ht : ∀ i, i < 16 → m 20 i = d (24 + i)) (hs : nb (m 25 h) 16) : JM l g 0 mX10_drift [rf g 18, .int (nI h), .int (nI c)] m (RF none (up2 m 25 h (itT d c (m 25 h)))) := by
  refine JM_of (ls := [some (rf g 18), some (.int (nI h)), some (.int (nI c)), none, none]) pn_X10 rfl rfl ?_
  refine j_aload0 1 dX10_drift_0 rfl ?_
  refine j_getR 4 dX10_drift_1 rfl fl_X10_30 rfl rfl ?_
  refine j_iload1 5 dX10_drift_4 rfl ?_
  refine j_iald 6 _ rfl (by first | assumption | decide | omega) dX10_drift_5 rfl rfl ?_
  refine j_istore3 7 dX10_drift_6 rfl rfl rfl ?_
  refine j_iconst 8 (v := 0) dX10_drift_7 rfl rfl ?_
  refine j_istore4 10 dX10_drift_8 rfl rfl rfl ?_
  exact lp_drift_18 d w m h c hh hc ht c 0 _ (Nat.zero_add _) hs ⟨rfl, rfl⟩
set_option maxRecDepth 100000 in
theorem lp_dust_18 {Q : Option Value → Mem → Prop} (d : Nat → Int32) (w : WF d) (m : Mem) (hT : TR 18 m d) (hq : Q (some (.int (setF (fun h => hf d h 3 = 0) (hn d)))) m) : ∀ (k h : Nat), h + k = hn d → J l g 1 mX10_dust 4 [some (rf g 18), some (.int (setF (fun h => hf d h 3 = 0) h)), some (.int (nI h))] [] m Q := by
  have wn := w.n
  have th : ∀ h, h < 8 → m 24 h = hf d h 3 := fun h hh => hT.2.2.2.2.2.2.2 h hh 3 (by decide)
  intro k
  induction k with
  | zero =>
    intro h e
    have e : h = hn d := by omega
    subst e
    refine j_iload2 5 dX10_dust_4 rfl ?_
    refine j_aload0 6 dX10_dust_5 rfl ?_
    refine j_getI 9 dX10_dust_6 rfl fl_X10_53 rfl rfl ?_
    refine j_cmp_ge 32 12 dX10_dust_9 rfl rfl (fun h9 => ?_) (fun h9 => absurd (by rw [hT.1, wn.2]; exact Int32.le_refl _) h9)
    refine j_iload1 33 dX10_dust_32 rfl ?_
    refine j_iret dX10_dust_33 rfl ?_
    exact hq
  | succ k ih =>
    intro h e
    have e2 : nI h + 1 = nI (h + 1) := nI_1 h
    refine j_iload2 5 dX10_dust_4 rfl ?_
    refine j_aload0 6 dX10_dust_5 rfl ?_
    refine j_getI 9 dX10_dust_6 rfl fl_X10_53 rfl rfl ?_
    refine j_cmp_ge 32 12 dX10_dust_9 rfl rfl (fun h9 => absurd h9 (by rw [hT.1, wn.2]; exact nI_ge (by omega) (by omega))) (fun h9 => ?_)
    refine j_aload0 13 dX10_dust_12 rfl ?_
    refine j_iload2 14 dX10_dust_13 rfl ?_
    refine j_vi1f 17 dX10_dust_14 rfl rfl cl_X10_86 rfl rfl (c_isDust_18 m h (by omega)) ?_
    refine j_if_eq_bz 26 20 dX10_dust_17 rfl rfl (fun h17 => ?_) (fun h17 => ?_)
    · refine j_iinc2 29 (1) dX10_dust_26 rfl rfl rfl rfl ?_
      refine j_goto 4 dX10_dust_29 rfl ?_
      first | rw [e2, setF_f (P := fun h => hf d h 3 = 0) (n := h) (by show ¬ hf d h 3 = 0; rw [← th h (by omega)]; exact h17)] | rw [e2, setF_t (P := fun h => hf d h 3 = 0) (n := h) (by show hf d h 3 = 0; rw [← th h (by omega)]; exact h17)]
      exact ih (h + 1) (by omega)
    · refine j_iload1 21 dX10_dust_20 rfl ?_
      refine j_iconst 22 (v := 1) dX10_dust_21 rfl rfl ?_
      refine j_iload2 23 dX10_dust_22 rfl ?_
      refine j_ishl 24 dX10_dust_23 rfl ?_
      refine j_ior 25 dX10_dust_24 rfl ?_
      refine j_istore1 26 dX10_dust_25 rfl rfl rfl ?_
      refine j_iinc2 29 (1) dX10_dust_26 rfl rfl rfl rfl ?_
      refine j_goto 4 dX10_dust_29 rfl ?_
      first | rw [e2, setF_f (P := fun h => hf d h 3 = 0) (n := h) (by show ¬ hf d h 3 = 0; rw [← th h (by omega)]; exact h17)] | rw [e2, setF_t (P := fun h => hf d h 3 = 0) (n := h) (by show hf d h 3 = 0; rw [← th h (by omega)]; exact h17)]
      exact ih (h + 1) (by omega)
set_option maxRecDepth 100000 in
theorem c_dust_18 (m : Mem) (d : Nat → Int32) (w : WF d) (hT : TR 18 m d) : JM l g 1 mX10_dust [rf g 18] m (RF (some (.int (setF (fun h => hf d h 3 = 0) (hn d)))) m) := by
  refine JM_of (ls := [some (rf g 18), none, none]) pn_X10 rfl rfl ?_
  refine j_iconst 1 (v := 0) dX10_dust_0 rfl rfl ?_
  refine j_istore1 2 dX10_dust_1 rfl rfl rfl ?_
  refine j_iconst 3 (v := 0) dX10_dust_2 rfl rfl ?_
  refine j_istore2 4 dX10_dust_3 rfl rfl rfl ?_
  exact lp_dust_18 d w m hT ⟨rfl, rfl⟩ _ 0 (Nat.zero_add _)
end CD0
