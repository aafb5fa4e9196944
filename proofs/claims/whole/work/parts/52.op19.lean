/-! cartsFor, odds -/
theorem WF_carts {d : Nat → Int32} (w : WF d) {c : Nat} (hc : c < 10) : WF (upd1 d 2 (nI c)) := WF_low w (Or.inr (Or.inr (Or.inl ⟨rfl, ⟨c, hc, rfl⟩⟩)))
theorem cN_t {P : Nat → Prop} [DecidablePred P] {n : Nat} (q : P n) : cN P (n + 1) = cN P n + 1 := by
  show cN P n + (if P n then 1 else 0) = _
  rw [if_pos q]
theorem cN_f {P : Nat → Prop} [DecidablePred P] {n : Nat} (q : ¬ P n) : cN P (n + 1) = cN P n := by
  show cN P n + (if P n then 1 else 0) = _
  rw [if_neg q]
  rfl
def gdF (a : Nat) : Nat → Nat
  | 0 => 1
  | 1 => 1
  | k + 2 => if a % (k + 2) = 0 ∧ 10 % (k + 2) = 0 then k + 2 else gdF a (k + 1)
theorem gd_gcd : ∀ c, c < 11 → gdF c 10 = Nat.gcd 10 c := by decide +kernel
theorem gd_pos : ∀ c, c < 11 → 0 < gdF c 10 ∧ gdF c 10 < 11 := by decide +kernel
theorem hn_carts {d : Nat → Int32} {v : Int32} : hn (upd1 d 2 v) = hn d := rfl
section O19
variable {l : Launch} {g : Gv}
theorem c_isC18 (m : Mem) (d : Nat → Int32) (wf : WF d) (hT : TR 18 m d) (h : Nat) (hh : h < 8) : JM l g 3 mX10_isContent [rf g 18, .int (nI h)] m (RF (some (.int (bz (contF d h)))) m) := by
  obtain ⟨x0, x1, x2, x3, x4, x5, x6⟩ := wf.hw hh
  obtain ⟨t9, t10, t11, t12, t13, ts, tt, th⟩ := hT
  have f0 : m 21 h = hf d h 0 := th h hh 0 (by decide)
  have f1 : m 22 h = hf d h 1 := th h hh 1 (by decide)
  have f2 : m 23 h = hf d h 2 := th h hh 2 (by decide)
  have f3 : m 24 h = hf d h 3 := th h hh 3 (by decide)
  have f4 : m 25 h = hf d h 4 := th h hh 4 (by decide)
  have ek : m 21 h = nI (kN d h) := f0.trans (nb_cl x0 (by decide)).2
  have hk : kN d h < 7 := (nb_cl x0 (by decide)).1
  have ts : ∀ i, i < 16 → m 19 i = d (8 + i) := ts
  have iff1 : (m 24 h = 0 ∧ (m 25 h = m 23 h ∨ neF (kN d h) (m 22 h) ≤ m 19 (m 25 h).toNatClampNeg)) ↔ contF d h := by
    rw [f3, f4, f2, f1]
    constructor
    · rintro ⟨q, z⟩
      refine ⟨q, z.imp id (fun z => ?_)⟩
      rw [ts _ (nb_cl (x4 q) (by decide)).1] at z
      exact z
    · rintro ⟨q, z⟩
      refine ⟨q, z.imp id (fun z => ?_)⟩
      rw [ts _ (nb_cl (x4 q) (by decide)).1]
      exact z
  refine (c_isContent_18 m h (kN d h) hh hk ek (by rw [f3, f4]; exact x4)).mono (fun r m' q => ⟨q.1.trans ?_, q.2⟩)
  rw [bz_congr iff1]
set_option maxRecDepth 100000 in
theorem lp_areContent {Q : Option Value → Mem → Prop} (m : Mem) (d : Nat → Int32) (w : WF d) (hT : TR 18 m d) (x : Nat) (k1 : (∀ i, i < hn d → bt (nI x) i = true → contF d i) → Q (some (.int 1)) m) (k0 : (¬ ∀ i, i < hn d → bt (nI x) i = true → contF d i) → Q (some (.int 0)) m) : ∀ (k h : Nat), h + k = hn d → (∀ i, i < h → bt (nI x) i = true → contF d i) → J l g 4 mX10_areContent 2 [some (rf g 18), some (.int (nI x)), some (.int (nI h))] [] m Q := by
  intro k
  have wn := w.n
  have e9 : m 18 9 = nI (hn d) := hT.1.trans wn.2
  induction k with
  | zero =>
    intro h e ha
    refine j_iload2 3 dX10_areContent_2 rfl ?_
    refine j_aload0 4 dX10_areContent_3 rfl ?_
    refine j_getI 7 dX10_areContent_4 rfl fl_X10_53 rfl rfl ?_
    refine j_top e9 ?_
    refine j_cmp_ge 35 10 dX10_areContent_7 rfl rfl (fun h7 => ?_) (fun h7 => absurd (show nI (hn d) ≤ nI h from nI_le (by omega) (by omega)) h7)
    refine j_iconst 36 (v := 1) dX10_areContent_35 rfl rfl ?_
    refine j_zret (by first | exact bz_01 | exact Or.inl rfl | exact Or.inr rfl | assumption) dX10_areContent_36 rfl ?_
    exact k1 (fun i hi => ha i (by omega))
  | succ k ih =>
    intro h e ha
    have e2 : nI h + 1 = nI (h + 1) := nI_1 h
    have hh : h < 8 := by omega
    refine j_iload2 3 dX10_areContent_2 rfl ?_
    refine j_aload0 4 dX10_areContent_3 rfl ?_
    refine j_getI 7 dX10_areContent_4 rfl fl_X10_53 rfl rfl ?_
    refine j_top e9 ?_
    refine j_cmp_ge 35 10 dX10_areContent_7 rfl rfl (fun h7 => absurd h7 (nI_ge (a := h) (b := hn d) (by omega) (by omega))) (fun h7 => ?_)
    refine j_iload1 11 dX10_areContent_10 rfl ?_
    refine j_iload2 12 dX10_areContent_11 rfl ?_
    refine j_ishr 13 dX10_areContent_12 rfl ?_
    refine j_iconst 14 (v := 1) dX10_areContent_13 rfl rfl ?_
    refine j_iand 15 dX10_areContent_14 rfl ?_
    refine j_iconst 16 (v := 1) dX10_areContent_15 rfl rfl ?_
    refine j_cmp_ne 29 19 dX10_areContent_16 rfl rfl (fun h16 => ?_) (fun h16 => ?_)
    · refine j_iinc2 32 (1) dX10_areContent_29 rfl rfl rfl rfl ?_
      refine j_goto 2 dX10_areContent_32 rfl ?_
      rw [e2]
      exact ih (h + 1) (by omega) (fun i hi hb => by
        by_cases q : i = h
        · subst q
          first | exact h24 | exact absurd (bitf_t (by omega) hb) h16
        · exact ha i (by omega) hb)
    · refine j_aload0 20 dX10_areContent_19 rfl ?_
      refine j_iload2 21 dX10_areContent_20 rfl ?_
      refine j_vi1f 24 dX10_areContent_21 rfl rfl cl_X10_93 rfl rfl (c_isC18 m d w hT h hh) ?_
      refine j_if_ne_bz 29 27 dX10_areContent_24 rfl rfl (fun h24 => ?_) (fun h24 => ?_)
      · refine j_iinc2 32 (1) dX10_areContent_29 rfl rfl rfl rfl ?_
        refine j_goto 2 dX10_areContent_32 rfl ?_
        rw [e2]
        exact ih (h + 1) (by omega) (fun i hi hb => by
          by_cases q : i = h
          · subst q
            first | exact h24 | exact absurd (bitf_t (by omega) hb) h16
          · exact ha i (by omega) hb)
      · refine j_iconst 28 (v := 0) dX10_areContent_27 rfl rfl ?_
        refine j_zret (by first | exact bz_01 | exact Or.inl rfl | exact Or.inr rfl | assumption) dX10_areContent_28 rfl ?_
        exact k0 (fun q => h24 (q h (by omega) (by cases hb : bt (nI x) h with | true => rfl | false => rw [show (nI x >>> (nI h &&& 31)) &&& 1 = 0 from bitf_f (by omega) hb] at h16; exact absurd h16 (by decide))))
set_option maxRecDepth 100000 in
theorem c_areContent (m : Mem) (d : Nat → Int32) (w : WF d) (hT : TR 18 m d) (x : Nat) (hx : x < 2 ^ hn d) : JM l g 4 mX10_areContent [rf g 18, .int (nI x)] m (RF (some (.int (bz (nI x &&& (setF (fun h => contF d h) (hn d) ^^^ -1) = 0)))) m) := by
  refine JM_of (ls := [some (rf g 18), some (.int (nI x)), none]) pn_X10 rfl rfl ?_
  have wn := w.n
  have K := lp_areContent (l := l) (g := g) (Q := RF (some (.int (bz (nI x &&& (setF (fun h => contF d h) (hn d) ^^^ -1) = 0)))) m) m d w hT x (fun q => rf_t ((sub_set (P := fun h => contF d h) (by omega) hx).mpr q)) (fun q => rf_f (fun z => q ((sub_set (P := fun h => contF d h) (by omega) hx).mp z))) (hn d) 0 (Nat.zero_add _) (fun i hi => absurd hi (Nat.not_lt_zero i))
  refine j_iconst 1 (v := 0) dX10_areContent_0 rfl rfl ?_
  refine j_istore2 2 dX10_areContent_1 rfl rfl rfl ?_
  exact K
set_option maxRecDepth 100000 in
theorem lp_contents {Q : Option Value → Mem → Prop} (m : Mem) (w : WF (m 69)) (hq : Q (some (.int (setF (fun h => contF (m 69) h) (hn (m 69))))) m) : ∀ (k h : Nat), h + k = hn (m 69) → J l g 4 mX12_contents 4 [some (rf g 68), some (.int (setF (fun h => contF (m 69) h) h)), some (.int (nI h))] [] m Q := by
  have wn := w.n
  intro k
  induction k with
  | zero =>
    intro h e
    have e : h = hn (m 69) := by omega
    refine j_iload2 5 dX12_contents_4 rfl ?_
    refine j_aload0 6 dX12_contents_5 rfl ?_
    refine j_getR 9 dX12_contents_6 rfl fl_X12_7 rfl rfl ?_
    refine j_iconst 10 (v := 0) dX12_contents_9 rfl rfl ?_
    refine j_iald 11 0 rfl (by first | assumption | decide | omega) dX12_contents_10 rfl rfl ?_
    refine j_cmp_ge 38 14 dX12_contents_11 rfl rfl (fun h11 => ?_) (fun h11 => absurd (by rw [wn.2]; exact nI_le (by omega) (by omega)) h11)
    refine j_iload1 39 dX12_contents_38 rfl ?_
    refine j_iret dX12_contents_39 rfl ?_
    rw [e]; exact hq
  | succ k ih =>
    intro h e
    have e2 : nI h + 1 = nI (h + 1) := nI_1 h
    have hh : h < 8 := by omega
    refine j_iload2 5 dX12_contents_4 rfl ?_
    refine j_aload0 6 dX12_contents_5 rfl ?_
    refine j_getR 9 dX12_contents_6 rfl fl_X12_7 rfl rfl ?_
    refine j_iconst 10 (v := 0) dX12_contents_9 rfl rfl ?_
    refine j_iald 11 0 rfl (by first | assumption | decide | omega) dX12_contents_10 rfl rfl ?_
    refine j_cmp_ge 38 14 dX12_contents_11 rfl rfl (fun h11 => absurd h11 (by rw [wn.2]; exact nI_ge (by omega) (by omega))) (fun h11 => ?_)
    refine j_iload1 15 dX12_contents_14 rfl ?_
    refine j_aload0 16 dX12_contents_15 rfl ?_
    refine j_iload2 17 dX12_contents_16 rfl ?_
    refine j_vi1f 20 dX12_contents_17 rfl rfl cl_X12_202 rfl rfl (c_misContent m h hh (w.hw hh)) ?_
    refine j_if_eq_bz 29 23 dX12_contents_20 rfl rfl (fun h20 => ?_) (fun h20 => ?_)
    · refine j_iconst 30 (v := 0) dX12_contents_29 rfl rfl ?_
      refine j_ior 31 dX12_contents_30 rfl ?_
      refine j_istore1 32 dX12_contents_31 rfl rfl rfl ?_
      refine j_iinc2 35 (1) dX12_contents_32 rfl rfl rfl rfl ?_
      refine j_goto 4 dX12_contents_35 rfl ?_
      first | rw [e2, setF_f0 (P := fun h => contF (m 69) h) (n := h) (show ¬ contF (m 69) h from h20)] | rw [e2, setF_t (P := fun h => contF (m 69) h) (n := h) (show contF (m 69) h from h20)]
      exact ih (h + 1) (by omega)
    · refine j_iconst 24 (v := 1) dX12_contents_23 rfl rfl ?_
      refine j_iload2 25 dX12_contents_24 rfl ?_
      refine j_ishl 26 dX12_contents_25 rfl ?_
      refine j_goto 30 dX12_contents_26 rfl ?_
      refine j_ior 31 dX12_contents_30 rfl ?_
      refine j_istore1 32 dX12_contents_31 rfl rfl rfl ?_
      refine j_iinc2 35 (1) dX12_contents_32 rfl rfl rfl rfl ?_
      refine j_goto 4 dX12_contents_35 rfl ?_
      first | rw [e2, setF_f0 (P := fun h => contF (m 69) h) (n := h) (show ¬ contF (m 69) h from h20)] | rw [e2, setF_t (P := fun h => contF (m 69) h) (n := h) (show contF (m 69) h from h20)]
      exact ih (h + 1) (by omega)
set_option maxRecDepth 100000 in
theorem c_contents (m : Mem) (w : WF (m 69)) : JM l g 4 mX12_contents [rf g 68] m (RF (some (.int (setF (fun h => contF (m 69) h) (hn (m 69))))) m) := by
  refine JM_of (ls := [some (rf g 68), none, none]) pn_X12 rfl rfl ?_
  refine j_iconst 1 (v := 0) dX12_contents_0 rfl rfl ?_
  refine j_istore1 2 dX12_contents_1 rfl rfl rfl ?_
  refine j_iconst 3 (v := 0) dX12_contents_2 rfl rfl ?_
  refine j_istore2 4 dX12_contents_3 rfl rfl rfl ?_
  exact lp_contents m w ⟨rfl, rfl⟩ _ 0 (Nat.zero_add _)
abbrev caP (d : Nat → Int32) (x n c : Nat) : Prop := nI x &&& (setF (fun h => contF (itD n (upd1 d 2 (nI c))) h) (hn (itD n (upd1 d 2 (nI c)))) ^^^ -1) = 0
set_option maxRecDepth 100000 in
theorem lp_cartsFor {Q : Option Value → Mem → Prop} (d : Nat → Int32) (w : WF d) (x n : Nat) (hx : x < 2 ^ hn d) (hn30 : n ≤ 30) (m0 : Mem) (hT0 : TR 9 m0 d) (hP : PR 36 m0 d) (kk1 : ∀ c m', c < 10 → caP d x n c → (∀ i, c < i → i < 10 → ¬ caP d x n i) → Sm thS m0 m' → Q (some (.int (nI c))) m') (kk2 : (∀ i, i < 10 → ¬ caP d x n i) → ∀ m', Sm thS m0 m' → Q (some (.int (-1000000002))) (errC 2 m')) : ∀ (k : Nat) (m : Mem), k ≤ 10 → (∀ i, k ≤ i → i < 10 → ¬ caP d x n i) → Sm thS m0 m → J l g 6 mX11_cartsFor 28 [some (rf g 0), some (.int (nI x)), some (.int (nI n)), some (.int (nI k + (-1)))] [] m Q := by
  intro k
  induction k with
  | zero =>
    intro m e hno hs
    refine j_iload3 29 dX11_cartsFor_28 rfl ?_
    refine j_if_lt 75 32 dX11_cartsFor_29 rfl rfl (fun h29 => ?_) (fun h29 => absurd (by decide) h29)
    refine j_aload0 76 dX11_cartsFor_75 rfl ?_
    refine j_ldc 78 dX11_cartsFor_76 rfl kc_X11_223 ?_
    refine j_vi1f 81 dX11_cartsFor_78 rfl rfl cl_X11_82 rfl rfl (c_err2 m) ?_
    refine j_iret dX11_cartsFor_81 rfl ?_
    exact kk2 (fun i hi => hno i (Nat.zero_le i) hi) m hs
  | succ k ih =>
    intro m e hno hs
    have w1 := WF_carts w (c := k) (by omega)
    have oe : ∀ j, 88 ≤ j → upd1 d 2 (nI k) j = d j := fun j hj => if_neg (by omega)
    rw [pk_m1 k]
    refine j_iload3 29 dX11_cartsFor_28 rfl ?_
    refine j_if_lt 75 32 dX11_cartsFor_29 rfl rfl (fun h29 => absurd h29 (nI_pos (by omega))) (fun h29 => ?_)
    refine j_aload0 33 dX11_cartsFor_32 rfl ?_
    refine j_vi0w 36 dX11_cartsFor_33 rfl rfl cl_X11_217 rfl rfl (c_think m) (fun m33 q33 => ?_)
    have s1 : Sm thS m0 m33 := hs.trans (q33.2.mono (by decide))
    obtain ⟨l0, l1⟩ := LR2 hP (s1 39 (by decide)) (s1 40 (by decide)) (s1 43 (by decide)) (s1 44 (by decide))
    refine j_aload0 37 dX11_cartsFor_36 rfl ?_
    refine j_getR 40 dX11_cartsFor_37 rfl fl_X11_39 rfl rfl ?_
    refine j_iload3 41 dX11_cartsFor_40 rfl ?_
    refine j_putI 44 dX11_cartsFor_41 rfl fp_X11_102 rfl rfl ?_
    refine j_aload0 45 dX11_cartsFor_44 rfl ?_
    refine j_getR 48 dX11_cartsFor_45 rfl fl_X11_39 rfl rfl ?_
    refine j_iload2 49 dX11_cartsFor_48 rfl ?_
    refine j_aload0 50 dX11_cartsFor_49 rfl ?_
    refine j_getR 53 dX11_cartsFor_50 rfl fl_X11_48 rfl rfl ?_
    refine j_vi2w 56 dX11_cartsFor_53 rfl rfl cl_X11_205 rfl rfl (c_goDays_18 (up2 m33 18 10 (nI k)) (upd1 d 2 (nI k)) n (by omega) w1 (TR_sc (q33.1 d (thT hs hT0)) (Or.inr (Or.inl ⟨rfl, rfl⟩))) (LR_congr (by decide) l0 (up2_r (by decide)) (up2_r (by decide)) oe) (LR_congr (by decide) l1 (up2_r (by decide)) (up2_r (by decide)) oe)) (fun m53 q53 => ?_)
    have s2 : Sm thS m0 m53 := (s1.up (by decide)).trans (q53.2.mono (by decide))
    refine j_aload0 57 dX11_cartsFor_56 rfl ?_
    refine j_getR 60 dX11_cartsFor_57 rfl fl_X11_39 rfl rfl ?_
    refine j_iload1 61 dX11_cartsFor_60 rfl ?_
    refine j_vi1f 64 dX11_cartsFor_61 rfl rfl cl_X11_227 rfl rfl (c_areContent m53 (itD n (upd1 d 2 (nI k))) (itD_wf n w1) q53.1 x (by rw [itn n w1, hn_carts]; exact hx)) ?_
    refine j_if_eq_bz 69 67 dX11_cartsFor_64 rfl rfl (fun h64 => ?_) (fun h64 => ?_)
    · refine j_iinc3 72 (-1) dX11_cartsFor_69 rfl rfl rfl rfl ?_
      refine j_goto 28 dX11_cartsFor_72 rfl ?_
      exact ih m53 (by omega) (fun i h1 h2 => by
        by_cases q : i = k
        · rw [q]; exact h64
        · exact hno i (by omega) h2) s2
    · refine j_iload3 68 dX11_cartsFor_67 rfl ?_
      refine j_iret dX11_cartsFor_68 rfl ?_
      exact kk1 k m53 (by omega) h64 (fun i h1 h2 => hno i (by omega) h2) s2
set_option maxRecDepth 100000 in
theorem lm_cartsFor {Q : Option Value → Mem → Prop} (d a0 : Nat → Int32) (w : WF d) (hd : nb (d 1) 10000) (x n : Nat) (hn30 : n ≤ 30) (m0 : Mem) (h71 : m0 71 = rst d a0) (kk1 : ∀ c m', c < 10 → caP d x n c → (∀ i, c < i → i < 10 → ¬ caP d x n i) → m' 69 = d → Sm [69, 73, 75] m0 m' → Q (some (.int (nI c))) m') (kk2 : (∀ i, i < 10 → ¬ caP d x n i) → ∀ m', m' 69 = d → Sm [69, 73, 75] m0 m' → Q (some (.int (-1000000002))) (errM 2 m')) : ∀ (k : Nat) (m : Mem) (o : Option Value), k ≤ 10 → (∀ i, k ≤ i → i < 10 → ¬ caP d x n i) → m 69 = d → Sm [69, 73, 75] m0 m → J l g 7 mX12_cartsFor 45 [some (rf g 68), some (.int (nI x)), some (.int (nI n)), some (.int (nI k + (-1))), o] [] m Q := by
  intro k
  induction k with
  | zero =>
    intro m o e hno hm hs
    refine j_iload3 46 dX12_cartsFor_45 rfl ?_
    refine j_if_lt 96 49 dX12_cartsFor_46 rfl rfl (fun h46 => ?_) (fun h46 => absurd (by decide) h46)
    refine j_aload0 97 dX12_cartsFor_96 rfl ?_
    refine j_iconst 98 (v := 2) dX12_cartsFor_97 rfl rfl ?_
    refine j_vi1f 101 dX12_cartsFor_98 rfl rfl cl_X12_126 rfl rfl (c_finds2 m) ?_
    refine j_iret dX12_cartsFor_101 rfl ?_
    exact kk2 (fun i hi => hno i (Nat.zero_le i) hi) m hm hs
  | succ k ih =>
    intro m o e hno hm hs
    have w1 := WF_carts w (c := k) (by omega)
    have r69 : up2 m 69 2 (nI k) 69 = upd1 d 2 (nI k) := by rw [up2_row69, hm]
    have d1 : upd1 d 2 (nI k) 1 = d 1 := if_neg (by decide)
    rw [pk_m1 k]
    have bk : ∀ m1, m1 69 = itD n (upd1 d 2 (nI k)) → Sm [69, 73, 75] m0 m1 → upR m1 69 (rst (m1 71) (m1 69)) 69 = d := fun m1 r1 s1 => by
      rw [upR_s, s1 71 (by decide), h71, r1]
      exact rst_back (fun j hj => (itD_k n w1 (by omega) (by omega) (by omega)).trans (if_neg (by omega)))
    have tT : ∀ m1, m1 69 = itD n (upd1 d 2 (nI k)) → Sm [69, 73, 75] m0 m1 → caP d x n k → J l g 7 mX12_cartsFor 77 [some (rf g 68), some (.int (nI x)), some (.int (nI n)), some (.int (nI k)), o] [.int 1] m1 Q := by
      intro m1 r1 s1 hy
      refine j_istore4 79 dX12_cartsFor_77 rfl rfl rfl ?_
      refine j_aload0 80 dX12_cartsFor_79 rfl ?_
      refine j_vi0v 83 dX12_cartsFor_80 rfl rfl cl_X12_223 rfl rfl (c_putBack m1) ?_
      refine j_iload4 85 dX12_cartsFor_83 rfl ?_
      refine j_if_eq 90 88 dX12_cartsFor_85 rfl rfl (fun h85 => absurd h85 (by decide)) (fun h85 => ?_)
      refine j_iload3 89 dX12_cartsFor_88 rfl ?_
      refine j_iret dX12_cartsFor_89 rfl ?_
      exact kk1 k _ (by omega) hy (fun i h1 h2 => hno i (by omega) h2) (bk m1 r1 s1) (s1.row (by decide))
    have tF : ∀ m1, m1 69 = itD n (upd1 d 2 (nI k)) → Sm [69, 73, 75] m0 m1 → ¬ caP d x n k → J l g 7 mX12_cartsFor 77 [some (rf g 68), some (.int (nI x)), some (.int (nI n)), some (.int (nI k)), o] [.int 0] m1 Q := by
      intro m1 r1 s1 hy
      refine j_istore4 79 dX12_cartsFor_77 rfl rfl rfl ?_
      refine j_aload0 80 dX12_cartsFor_79 rfl ?_
      refine j_vi0v 83 dX12_cartsFor_80 rfl rfl cl_X12_223 rfl rfl (c_putBack m1) ?_
      refine j_iload4 85 dX12_cartsFor_83 rfl ?_
      refine j_if_eq 90 88 dX12_cartsFor_85 rfl rfl (fun h85 => ?_) (fun h85 => absurd (by decide) h85)
      refine j_iinc3 93 (-1) dX12_cartsFor_90 rfl rfl rfl rfl ?_
      refine j_goto 45 dX12_cartsFor_93 rfl ?_
      exact ih _ _ (by omega) (fun i h1 h2 => by
        by_cases q : i = k
        · rw [q]; exact hy
        · exact hno i (by omega) h2) (bk m1 r1 s1) (s1.row (by decide))
    refine j_iload3 46 dX12_cartsFor_45 rfl ?_
    refine j_if_lt 96 49 dX12_cartsFor_46 rfl rfl (fun h46 => absurd h46 (nI_pos (by omega))) (fun h46 => ?_)
    refine j_aload0 50 dX12_cartsFor_49 rfl ?_
    refine j_getR 53 dX12_cartsFor_50 rfl fl_X12_7 rfl rfl ?_
    refine j_iconst 54 (v := nI 2) dX12_cartsFor_53 rfl rfl ?_
    refine j_iload3 55 dX12_cartsFor_54 rfl ?_
    refine j_iast 56 2 rfl (by decide) dX12_cartsFor_55 rfl rfl ?_
    refine j_aload0 57 dX12_cartsFor_56 rfl ?_
    refine j_iload2 58 dX12_cartsFor_57 rfl ?_
    refine j_vi1w 61 dX12_cartsFor_58 rfl rfl cl_X12_214 rfl rfl (c_daysGo (up2 m 69 2 (nI k)) n (by omega) (by rw [r69]; exact w1) (by rw [r69, d1]; exact nb_up hd (by decide))) (fun m58 q58 => ?_)
    have r1 : m58 69 = itD n (upd1 d 2 (nI k)) := q58.1.trans (by rw [r69])
    have s1 : Sm [69, 73, 75] m0 m58 := (hs.up (by decide)).trans q58.2
    refine j_iload1 62 dX12_cartsFor_61 rfl ?_
    refine j_aload0 63 dX12_cartsFor_62 rfl ?_
    refine j_vi0f 66 dX12_cartsFor_63 rfl rfl cl_X12_238 rfl rfl (c_contents m58 (by rw [r1]; exact itD_wf n w1)) ?_
    rw [r1]
    refine j_iconst 67 (v := -1) dX12_cartsFor_66 rfl rfl ?_
    refine j_ixor 68 dX12_cartsFor_67 rfl ?_
    refine j_iand 69 dX12_cartsFor_68 rfl ?_
    refine j_if_ne 76 72 dX12_cartsFor_69 rfl rfl (fun h69 => ?_) (fun h69 => ?_)
    · refine j_iconst 77 (v := 0) dX12_cartsFor_76 rfl rfl ?_
      first | exact tT m58 r1 s1 h69 | exact tF m58 r1 s1 h69
    · refine j_iconst 73 (v := 1) dX12_cartsFor_72 rfl rfl ?_
      refine j_goto 77 dX12_cartsFor_73 rfl ?_
      first | exact tT m58 r1 s1 h69 | exact tF m58 r1 s1 h69
set_option maxRecDepth 100000 in
theorem e_cartsFor (m : Mem) (a b : Int32) (c : ¬ ((0 ≤ a ∧ a < (1 : Int32) <<< (m 9 9 &&& 31)) ∧ (0 ≤ b ∧ b ≤ 30))) : JM l g 2 mX11_cartsFor [rf g 0, .int a, .int b] m (RF (some (.int (-1000000001))) (errC 1 m)) := by
  refine JM_of (ls := [some (rf g 0), some (.int a), some (.int b), none]) pn_X11 rfl rfl ?_
  refine j_aload0 1 dX11_cartsFor_0 rfl ?_
  refine j_iload1 2 dX11_cartsFor_1 rfl ?_
  refine j_vi1f 5 dX11_cartsFor_2 rfl rfl cl_X11_224 rfl rfl (c_isSet m a) ?_
  refine j_if_eq_bz 18 8 dX11_cartsFor_5 rfl rfl (fun h5 => ?_) (fun h5 => ?_)
  · refine j_aload0 19 dX11_cartsFor_18 rfl ?_
    refine j_ldc 21 dX11_cartsFor_19 rfl kc_X11_81 ?_
    refine j_vi1f 24 dX11_cartsFor_21 rfl rfl cl_X11_82 rfl rfl (c_err1 m) ?_
    refine j_iret dX11_cartsFor_24 rfl ?_
    exact ⟨rfl, rfl⟩
  · refine j_iload2 9 dX11_cartsFor_8 rfl ?_
    refine j_iconst 10 (v := 0) dX11_cartsFor_9 rfl rfl ?_
    refine j_bipush 12 (v := 30) dX11_cartsFor_10 rfl rfl ?_
    refine j_st3f 15 dX11_cartsFor_12 rfl rfl cl_X11_86 rfl (c_within m b 0 30) ?_
    refine j_if_ne_bz 25 18 dX11_cartsFor_15 rfl rfl (fun h15 => ?_) (fun h15 => ?_)
    · exact absurd ⟨h5, h15⟩ c
    · refine j_aload0 19 dX11_cartsFor_18 rfl ?_
      refine j_ldc 21 dX11_cartsFor_19 rfl kc_X11_81 ?_
      refine j_vi1f 24 dX11_cartsFor_21 rfl rfl cl_X11_82 rfl rfl (c_err1 m) ?_
      refine j_iret dX11_cartsFor_24 rfl ?_
      exact ⟨rfl, rfl⟩
set_option maxRecDepth 100000 in
theorem f_cartsFor (m : Mem) (a b : Int32) (c : ¬ ((0 ≤ a ∧ a ≤ (1 : Int32) <<< (m 69 0 &&& 31) - 1) ∧ (0 ≤ b ∧ b ≤ 30))) : JM l g 2 mX12_cartsFor [rf g 68, .int a, .int b] m (RF (some (.int (-1000000001))) (errM 1 m)) := by
  refine JM_of (ls := [some (rf g 68), some (.int a), some (.int b), none, none]) pn_X12 rfl rfl ?_
  refine j_iload1 1 dX12_cartsFor_0 rfl ?_
  refine j_i2l 2 dX12_cartsFor_1 rfl ?_
  refine j_lconst 3 (v := 0) dX12_cartsFor_2 rfl rfl ?_
  refine j_iconst 4 (v := 1) dX12_cartsFor_3 rfl rfl ?_
  refine j_aload0 5 dX12_cartsFor_4 rfl ?_
  refine j_getR 8 dX12_cartsFor_5 rfl fl_X12_7 rfl rfl ?_
  refine j_iconst 9 (v := 0) dX12_cartsFor_8 rfl rfl ?_
  refine j_iald 10 0 rfl (by first | assumption | decide | omega) dX12_cartsFor_9 rfl rfl ?_
  refine j_ishl 11 dX12_cartsFor_10 rfl ?_
  refine j_iconst 12 (v := 1) dX12_cartsFor_11 rfl rfl ?_
  refine j_isub 13 dX12_cartsFor_12 rfl ?_
  refine j_i2l 14 dX12_cartsFor_13 rfl ?_
  refine j_st3f 17 dX12_cartsFor_14 rfl rfl cl_X12_47 rfl (c_in m a 0 _) ?_
  refine j_if_eq_bz 32 20 dX12_cartsFor_17 rfl rfl (fun h17 => ?_) (fun h17 => ?_)
  · refine j_aload0 33 dX12_cartsFor_32 rfl ?_
    refine j_iconst 34 (v := 1) dX12_cartsFor_33 rfl rfl ?_
    refine j_vi1f 37 dX12_cartsFor_34 rfl rfl cl_X12_126 rfl rfl (c_finds1 m) ?_
    refine j_iret dX12_cartsFor_37 rfl ?_
    exact ⟨rfl, rfl⟩
  · refine j_iload2 21 dX12_cartsFor_20 rfl ?_
    refine j_i2l 22 dX12_cartsFor_21 rfl ?_
    refine j_lconst 23 (v := 0) dX12_cartsFor_22 rfl rfl ?_
    refine j_ldc2 26 dX12_cartsFor_23 rfl kl_X12_187 ?_
    refine j_st3f 29 dX12_cartsFor_26 rfl rfl cl_X12_47 rfl (c_in m b 0 30) ?_
    refine j_if_ne_bz 38 32 dX12_cartsFor_29 rfl rfl (fun h29 => ?_) (fun h29 => ?_)
    · exact absurd ⟨h17, h29⟩ c
    · refine j_aload0 33 dX12_cartsFor_32 rfl ?_
      refine j_iconst 34 (v := 1) dX12_cartsFor_33 rfl rfl ?_
      refine j_vi1f 37 dX12_cartsFor_34 rfl rfl cl_X12_126 rfl rfl (c_finds1 m) ?_
      refine j_iret dX12_cartsFor_37 rfl ?_
      exact ⟨rfl, rfl⟩
set_option maxRecDepth 100000 in
theorem o_cartsFor {Q : Option Value → Mem → Prop} (m : Mem) (d : Nat → Int32) (w : WF d) (hT : TR 9 m d) (hP : PR 36 m d) (x n : Nat) (hx : x < 2 ^ hn d) (hn30 : n ≤ 30) (h1 : 0 ≤ nI x ∧ nI x < (1 : Int32) <<< (m 9 9 &&& 31)) (kk1 : ∀ c m', c < 10 → caP d x n c → (∀ i, c < i → i < 10 → ¬ caP d x n i) → Sm thS m m' → Q (some (.int (nI c))) m') (kk2 : (∀ i, i < 10 → ¬ caP d x n i) → ∀ m', Sm thS m m' → Q (some (.int (-1000000002))) (errC 2 m')) : JM l g 6 mX11_cartsFor [rf g 0, .int (nI x), .int (nI n)] m (Q) := by
  refine JM_of (ls := [some (rf g 0), some (.int (nI x)), some (.int (nI n)), none]) pn_X11 rfl rfl ?_
  refine j_aload0 1 dX11_cartsFor_0 rfl ?_
  refine j_iload1 2 dX11_cartsFor_1 rfl ?_
  refine j_vi1f 5 dX11_cartsFor_2 rfl rfl cl_X11_224 rfl rfl (c_isSet m _) ?_
  refine j_if_eq_bz 18 8 dX11_cartsFor_5 rfl rfl (fun h5 => absurd h1 h5) (fun h5 => ?_)
  refine j_iload2 9 dX11_cartsFor_8 rfl ?_
  refine j_iconst 10 (v := 0) dX11_cartsFor_9 rfl rfl ?_
  refine j_bipush 12 (v := 30) dX11_cartsFor_10 rfl rfl ?_
  refine j_st3f 15 dX11_cartsFor_12 rfl rfl cl_X11_86 rfl (c_within m _ 0 30) ?_
  refine j_if_ne_bz 25 18 dX11_cartsFor_15 rfl rfl (fun h15 => ?_) (fun h15 => absurd ((rngN 30 (by decide)).mpr ⟨n, hn30, rfl⟩) h15)
  refine j_bipush 27 (v := 9) dX11_cartsFor_25 rfl rfl ?_
  refine j_istore3 28 dX11_cartsFor_27 rfl rfl rfl ?_
  exact lp_cartsFor d w x n hx hn30 m hT hP kk1 kk2 10 m (by decide) (fun i h1 h2 => absurd h2 (by omega)) Sm.rf
set_option maxRecDepth 100000 in
theorem p_cartsFor {Q : Option Value → Mem → Prop} (m : Mem) (d : Nat → Int32) (hm : m 69 = d) (w : WF d) (hd : nb (d 1) 10000) (x n : Nat) (hn30 : n ≤ 30) (h1 : 0 ≤ nI x ∧ nI x ≤ (1 : Int32) <<< (m 69 0 &&& 31) - 1) (kk1 : ∀ c m', c < 10 → caP d x n c → (∀ i, c < i → i < 10 → ¬ caP d x n i) → MK m m' → Q (some (.int (nI c))) m') (kk2 : (∀ i, i < 10 → ¬ caP d x n i) → ∀ m', MK m m' → Q (some (.int (-1000000002))) (errM 2 m')) : JM l g 7 mX12_cartsFor [rf g 68, .int (nI x), .int (nI n)] m (Q) := by
  refine JM_of (ls := [some (rf g 68), some (.int (nI x)), some (.int (nI n)), none, none]) pn_X12 rfl rfl ?_
  refine j_iload1 1 dX12_cartsFor_0 rfl ?_
  refine j_i2l 2 dX12_cartsFor_1 rfl ?_
  refine j_lconst 3 (v := 0) dX12_cartsFor_2 rfl rfl ?_
  refine j_iconst 4 (v := 1) dX12_cartsFor_3 rfl rfl ?_
  refine j_aload0 5 dX12_cartsFor_4 rfl ?_
  refine j_getR 8 dX12_cartsFor_5 rfl fl_X12_7 rfl rfl ?_
  refine j_iconst 9 (v := 0) dX12_cartsFor_8 rfl rfl ?_
  refine j_iald 10 0 rfl (by first | assumption | decide | omega) dX12_cartsFor_9 rfl rfl ?_
  refine j_ishl 11 dX12_cartsFor_10 rfl ?_
  refine j_iconst 12 (v := 1) dX12_cartsFor_11 rfl rfl ?_
  refine j_isub 13 dX12_cartsFor_12 rfl ?_
  refine j_i2l 14 dX12_cartsFor_13 rfl ?_
  refine j_st3f 17 dX12_cartsFor_14 rfl rfl cl_X12_47 rfl (c_in m _ 0 _) ?_
  refine j_if_eq_bz 32 20 dX12_cartsFor_17 rfl rfl (fun h17 => absurd h1 h17) (fun h17 => ?_)
  refine j_iload2 21 dX12_cartsFor_20 rfl ?_
  refine j_i2l 22 dX12_cartsFor_21 rfl ?_
  refine j_lconst 23 (v := 0) dX12_cartsFor_22 rfl rfl ?_
  refine j_ldc2 26 dX12_cartsFor_23 rfl kl_X12_187 ?_
  refine j_st3f 29 dX12_cartsFor_26 rfl rfl cl_X12_47 rfl (c_in m _ 0 30) ?_
  refine j_if_ne_bz 38 32 dX12_cartsFor_29 rfl rfl (fun h29 => ?_) (fun h29 => absurd ((rngN 30 (by decide)).mpr ⟨n, hn30, rfl⟩) h29)
  refine j_aload0 39 dX12_cartsFor_38 rfl ?_
  refine j_vi0v 42 dX12_cartsFor_39 rfl rfl cl_X12_226 rfl rfl (c_keepAside m) ?_
  refine j_bipush 44 (v := 9) dX12_cartsFor_42 rfl rfl ?_
  refine j_istore3 45 dX12_cartsFor_44 rfl rfl rfl ?_
  exact lm_cartsFor d (m 71) w hd x n hn30 (upR m 71 (rst (m 69) (m 71))) (by rw [upR_s, hm]) (fun c m' a1 a2 a3 r s => kk1 c m' a1 a2 a3 ⟨r.trans hm.symm, (Sm.rf.row (by decide)).trans (s.mono (by decide))⟩) (fun a m' r s => kk2 a m' ⟨r.trans hm.symm, (Sm.rf.row (by decide)).trans (s.mono (by decide))⟩) 10 _ none (by decide) (fun i h1 h2 => absurd h2 (by omega)) ((upR_n (by decide)).trans hm) Sm.rf
theorem op_cartsFor {m : Mem} (I : INV m) (a b : Int32) : OPr l g mX11_cartsFor mX12_cartsFor [.int a, .int b] m := by
  obtain ⟨⟨wf, hd, hT, hP⟩, -⟩ := id I
  by_cases c : (0 ≤ a ∧ a < (1 : Int32) <<< (m 69 0 &&& 31)) ∧ (0 ≤ b ∧ b ≤ 30)
  · obtain ⟨h1, h2⟩ := c
    obtain ⟨x, hx, rfl⟩ := (set_c wf).mp h1
    have cm := (set_m wf).mpr ⟨x, hx, rfl⟩
    obtain ⟨n, hn, rfl⟩ := (rngN 30 (by decide)).mp h2
    rcases findK (fun i => ¬ caP (m 69) x n (9 - i)) 10 with ⟨N, hN, hy, hno⟩ | hno
    · have hy : caP (m 69) x n (9 - N) := Classical.not_not.mp hy
      have u : ∀ c, c < 10 → caP (m 69) x n c → (∀ i, c < i → i < 10 → ¬ caP (m 69) x n i) → c = 9 - N := fun c hc p1 p2 => by
        rcases (show c < 9 - N ∨ c = 9 - N ∨ 9 - N < c by omega) with z | z | z
        · exact absurd hy (p2 _ z (by omega))
        · exact z
        · have := hno (9 - c) (by omega)
          rw [show 9 - (9 - c) = c by omega] at this
          exact absurd p1 this
      refine OPr_ask (d1 := 6) (d2 := 7) (r := nI (9 - N)) I (by decide) (by decide) (o_cartsFor m (m 69) wf hT hP x n hx hn (by rw [hT.1]; exact h1) (fun c m' hc p1 p2 s => ⟨by rw [u c hc p1 p2], s⟩) (fun a => absurd hy (a _ (by omega)))) (fun m' s' => ?_)
      have e := dn s'
      exact p_cartsFor m' (m 69) e wf hd x n hn (by rw [e]; exact cm) (fun c m' hc p1 p2 s => ⟨by rw [u c hc p1 p2], s⟩) (fun a => absurd hy (a _ (by omega)))
    · have hno : ∀ c, c < 10 → ¬ caP (m 69) x n c := fun c hc => by
        have := hno (9 - c) (by omega)
        rw [show 9 - (9 - c) = c by omega] at this
        exact this
      refine OPr_none (d1 := 6) (d2 := 7) I (by decide) (by decide) (by decide) (o_cartsFor m (m 69) wf hT hP x n hx hn (by rw [hT.1]; exact h1) (fun c m' hc p1 _ _ => absurd p1 (hno c hc)) (fun _ m' s => ⟨rfl, m', s, rfl⟩)) (fun m' s' => ?_)
      have e : errC 2 m' 69 = m 69 := (errC_o (by decide)).trans (dn s')
      exact p_cartsFor (errC 2 m') (m 69) e wf hd x n hn (by rw [e]; exact cm) (fun c m' hc p1 _ _ => absurd p1 (hno c hc)) (fun _ m' s => ⟨rfl, m', s, rfl⟩)
  · exact OPr_err I (by decide) (by decide) (by decide) (e_cartsFor m a b (by rw [hT.1]; exact c)) (f_cartsFor _ a b (fun q => c ⟨(set_c wf).mpr ((set_m wf).mp (by have := q.1; rw [errC_o (by decide)] at this; exact this)), q.2⟩))
/-! odds -/
abbrev odP (d : Nat → Int32) (n h c : Nat) : Prop := contF (itD n (upd1 d 2 (nI c))) h
set_option maxRecDepth 100000 in
theorem lp_odds {Q : Option Value → Mem → Prop} (d : Nat → Int32) (w : WF d) (h n : Nat) (hh : h < 8) (hn60 : n ≤ 60) (v : Int32) (m0 : Mem) (hT0 : TR 9 m0 d) (hP : PR 36 m0 d) (kk : ∀ m', Sm thS m0 m' → J l g 6 mX11_odds 96 [some (rf g 0), some (.int (nI h)), some (.int (nI n)), some (.int v), some (.int (nI 10)), some (.int (nI (cN (odP d n h) 10))), some (.int (nI 10))] [] m' Q) : ∀ (k j : Nat) (m : Mem), j + k = 10 → Sm thS m0 m → J l g 6 mX11_odds 44 [some (rf g 0), some (.int (nI h)), some (.int (nI n)), some (.int v), some (.int (nI 10)), some (.int (nI (cN (odP d n h) j))), some (.int (nI j))] [] m Q := by
  intro k
  induction k with
  | zero =>
    intro j m e hs
    have e : j = 10 := by omega
    subst e
    refine j_iload6 46 dX11_odds_44 rfl ?_
    refine j_iload4 48 dX11_odds_46 rfl ?_
    refine j_cmp_ge 96 51 dX11_odds_48 rfl rfl (fun h48 => ?_) (fun h48 => absurd (by decide) h48)
    exact kk m hs
  | succ k ih =>
    intro j m e hs
    have e2 : nI j + 1 = nI (j + 1) := nI_1 j
    have e3 : nI (cN (odP d n h) j) + 1 = nI (cN (odP d n h) j + 1) := nI_1 _
    have w1 := WF_carts w (c := j) (by omega)
    have oe : ∀ i, 88 ≤ i → upd1 d 2 (nI j) i = d i := fun i hi => if_neg (by omega)
    refine j_iload6 46 dX11_odds_44 rfl ?_
    refine j_iload4 48 dX11_odds_46 rfl ?_
    refine j_cmp_ge 96 51 dX11_odds_48 rfl rfl (fun h48 => absurd h48 (nI_ge (a := j) (b := 10) (by omega) (by decide))) (fun h48 => ?_)
    refine j_aload0 52 dX11_odds_51 rfl ?_
    refine j_vi0w 55 dX11_odds_52 rfl rfl cl_X11_217 rfl rfl (c_think m) (fun m52 q52 => ?_)
    have s1 : Sm thS m0 m52 := hs.trans (q52.2.mono (by decide))
    obtain ⟨l0, l1⟩ := LR2 hP (s1 39 (by decide)) (s1 40 (by decide)) (s1 43 (by decide)) (s1 44 (by decide))
    refine j_aload0 56 dX11_odds_55 rfl ?_
    refine j_getR 59 dX11_odds_56 rfl fl_X11_39 rfl rfl ?_
    refine j_iload6 61 dX11_odds_59 rfl ?_
    refine j_putI 64 dX11_odds_61 rfl fp_X11_102 rfl rfl ?_
    refine j_aload0 65 dX11_odds_64 rfl ?_
    refine j_getR 68 dX11_odds_65 rfl fl_X11_39 rfl rfl ?_
    refine j_iload2 69 dX11_odds_68 rfl ?_
    refine j_aload0 70 dX11_odds_69 rfl ?_
    refine j_getR 73 dX11_odds_70 rfl fl_X11_48 rfl rfl ?_
    refine j_vi2w 76 dX11_odds_73 rfl rfl cl_X11_205 rfl rfl (c_goDays_18 (up2 m52 18 10 (nI j)) (upd1 d 2 (nI j)) n (by omega) w1 (TR_sc (q52.1 d (thT hs hT0)) (Or.inr (Or.inl ⟨rfl, rfl⟩))) (LR_congr (by decide) l0 (up2_r (by decide)) (up2_r (by decide)) oe) (LR_congr (by decide) l1 (up2_r (by decide)) (up2_r (by decide)) oe)) (fun m73 q73 => ?_)
    have s2 : Sm thS m0 m73 := (s1.up (by decide)).trans (q73.2.mono (by decide))
    refine j_aload0 77 dX11_odds_76 rfl ?_
    refine j_getR 80 dX11_odds_77 rfl fl_X11_39 rfl rfl ?_
    refine j_iload1 81 dX11_odds_80 rfl ?_
    refine j_vi1f 84 dX11_odds_81 rfl rfl cl_X11_158 rfl rfl (c_isC18 m73 (itD n (upd1 d 2 (nI j))) (itD_wf n w1) q73.1 h hh) ?_
    refine j_if_eq_bz 90 87 dX11_odds_84 rfl rfl (fun h84 => ?_) (fun h84 => ?_)
    · refine j_iinc6 93 (1) dX11_odds_90 rfl rfl rfl rfl ?_
      refine j_goto 44 dX11_odds_93 rfl ?_
      have ih1 := ih (j + 1) m73 (by omega) s2
      first | (rw [cN_t (P := odP d n h) (n := j) h84] at ih1; rw [e2, e3]; exact ih1) | (rw [cN_f (P := odP d n h) (n := j) h84] at ih1; rw [e2]; exact ih1)
    · refine j_iinc5 90 (1) dX11_odds_87 rfl rfl rfl rfl ?_
      refine j_iinc6 93 (1) dX11_odds_90 rfl rfl rfl rfl ?_
      refine j_goto 44 dX11_odds_93 rfl ?_
      have ih1 := ih (j + 1) m73 (by omega) s2
      first | (rw [cN_t (P := odP d n h) (n := j) h84] at ih1; rw [e2, e3]; exact ih1) | (rw [cN_f (P := odP d n h) (n := j) h84] at ih1; rw [e2]; exact ih1)
set_option maxRecDepth 100000 in
theorem lm_odds {Q : Option Value → Mem → Prop} (d a0 : Nat → Int32) (w : WF d) (hd : nb (d 1) 10000) (h n : Nat) (hh : h < 8) (hn60 : n ≤ 60) (v : Int32) (m0 : Mem) (h71 : m0 71 = rst d a0) (kk : ∀ m', m' 69 = d → Sm [69, 73, 75] m0 m' → J l g 7 mX12_odds 94 [some (rf g 68), some (.int (nI h)), some (.int (nI n)), some (.int v), some (.int (nI (cN (odP d n h) 10))), some (.int (nI 10))] [] m' Q) : ∀ (k j : Nat) (m : Mem), j + k = 10 → m 69 = d → Sm [69, 73, 75] m0 m → J l g 7 mX12_odds 46 [some (rf g 68), some (.int (nI h)), some (.int (nI n)), some (.int v), some (.int (nI (cN (odP d n h) j))), some (.int (nI j))] [] m Q := by
  intro k
  induction k with
  | zero =>
    intro j m e hm hs
    have e : j = 10 := by omega
    subst e
    refine j_iload5 48 dX12_odds_46 rfl ?_
    refine j_bipush 50 (v := 9) dX12_odds_48 rfl rfl ?_
    refine j_cmp_gt 94 53 dX12_odds_50 rfl rfl (fun h50 => ?_) (fun h50 => absurd (by decide) h50)
    exact kk m hm hs
  | succ k ih =>
    intro j m e hm hs
    have e2 : nI j + 1 = nI (j + 1) := nI_1 j
    have e3 : nI (cN (odP d n h) j) + 1 = nI (cN (odP d n h) j + 1) := nI_1 _
    have e4 : nI (cN (odP d n h) j) + 0 = nI (cN (odP d n h) j) := nI_add _ 0
    have w1 := WF_carts w (c := j) (by omega)
    have r69 : up2 m 69 2 (nI j) 69 = upd1 d 2 (nI j) := by rw [up2_row69, hm]
    have d1 : upd1 d 2 (nI j) 1 = d 1 := if_neg (by decide)
    have bk : ∀ m1, m1 69 = itD n (upd1 d 2 (nI j)) → Sm [69, 73, 75] m0 m1 → upR m1 69 (rst (m1 71) (m1 69)) 69 = d := fun m1 r1 s1 => by
      rw [upR_s, s1 71 (by decide), h71, r1]
      exact rst_back (fun i hi => (itD_k n w1 (by omega) (by omega) (by omega)).trans (if_neg (by omega)))
    refine j_iload5 48 dX12_odds_46 rfl ?_
    refine j_bipush 50 (v := 9) dX12_odds_48 rfl rfl ?_
    refine j_cmp_gt 94 53 dX12_odds_50 rfl rfl (fun h50 => absurd h50 (nI_nlt (a := 9) (b := j) (by omega) (by decide))) (fun h50 => ?_)
    refine j_aload0 54 dX12_odds_53 rfl ?_
    refine j_getR 57 dX12_odds_54 rfl fl_X12_7 rfl rfl ?_
    refine j_iconst 58 (v := nI 2) dX12_odds_57 rfl rfl ?_
    refine j_iload5 60 dX12_odds_58 rfl ?_
    refine j_iast 61 2 rfl (by decide) dX12_odds_60 rfl rfl ?_
    refine j_aload0 62 dX12_odds_61 rfl ?_
    refine j_iload2 63 dX12_odds_62 rfl ?_
    refine j_vi1w 66 dX12_odds_63 rfl rfl cl_X12_214 rfl rfl (c_daysGo (up2 m 69 2 (nI j)) n (by omega) (by rw [r69]; exact w1) (by rw [r69, d1]; exact nb_up hd (by decide))) (fun m63 q63 => ?_)
    have r1 : m63 69 = itD n (upd1 d 2 (nI j)) := q63.1.trans (by rw [r69])
    have s1 : Sm [69, 73, 75] m0 m63 := (hs.up (by decide)).trans q63.2
    refine j_iload4 68 dX12_odds_66 rfl ?_
    refine j_aload0 69 dX12_odds_68 rfl ?_
    refine j_iload1 70 dX12_odds_69 rfl ?_
    refine j_vi1f 73 dX12_odds_70 rfl rfl cl_X12_202 rfl rfl (c_misContent m63 h hh (by rw [r1]; exact (itD_wf n w1).hw hh)) ?_
    rw [r1]
    refine j_if_eq_bz 80 76 dX12_odds_73 rfl rfl (fun h73 => ?_) (fun h73 => ?_)
    · refine j_iconst 81 (v := 0) dX12_odds_80 rfl rfl ?_
      refine j_iadd 82 dX12_odds_81 rfl ?_
      refine j_istore4 84 dX12_odds_82 rfl rfl rfl ?_
      refine j_aload0 85 dX12_odds_84 rfl ?_
      refine j_vi0v 88 dX12_odds_85 rfl rfl cl_X12_223 rfl rfl (c_putBack m63) ?_
      refine j_iinc5 91 (1) dX12_odds_88 rfl rfl rfl rfl ?_
      refine j_goto 46 dX12_odds_91 rfl ?_
      have ih1 := ih (j + 1) _ (by omega) (bk m63 r1 s1) (s1.row (by decide))
      first | (rw [cN_t (P := odP d n h) (n := j) h73] at ih1; rw [e2, e3]; exact ih1) | (rw [cN_f (P := odP d n h) (n := j) h73] at ih1; rw [e2, e4]; exact ih1)
    · refine j_iconst 77 (v := 1) dX12_odds_76 rfl rfl ?_
      refine j_goto 81 dX12_odds_77 rfl ?_
      refine j_iadd 82 dX12_odds_81 rfl ?_
      refine j_istore4 84 dX12_odds_82 rfl rfl rfl ?_
      refine j_aload0 85 dX12_odds_84 rfl ?_
      refine j_vi0v 88 dX12_odds_85 rfl rfl cl_X12_223 rfl rfl (c_putBack m63) ?_
      refine j_iinc5 91 (1) dX12_odds_88 rfl rfl rfl rfl ?_
      refine j_goto 46 dX12_odds_91 rfl ?_
      have ih1 := ih (j + 1) _ (by omega) (bk m63 r1 s1) (s1.row (by decide))
      first | (rw [cN_t (P := odP d n h) (n := j) h73] at ih1; rw [e2, e3]; exact ih1) | (rw [cN_f (P := odP d n h) (n := j) h73] at ih1; rw [e2, e4]; exact ih1)
set_option maxRecDepth 100000 in
theorem lp_gd {Q : Option Value → Mem → Prop} (m : Mem) (a : Nat) (ha : a < 2 ^ 31) : ∀ (k : Nat), k ≤ 9 → Q (some (.int (nI (gdF a (k + 1))))) m → J l g 0 mX11_greatestDivisor 2 [some (.int (nI a)), some (.int (nI 10)), some (.int (nI (k + 1)))] [] m Q := by
  intro k
  induction k with
  | zero =>
    intro e hq
    refine j_iload2 3 dX11_greatestDivisor_2 rfl ?_
    refine j_iconst 4 (v := 1) dX11_greatestDivisor_3 rfl rfl ?_
    refine j_cmp_le 27 7 dX11_greatestDivisor_4 rfl rfl (fun h4 => ?_) (fun h4 => absurd (by decide) h4)
    refine j_iconst 28 (v := 1) dX11_greatestDivisor_27 rfl rfl ?_
    refine j_iret dX11_greatestDivisor_28 rfl ?_
    exact hq
  | succ k ih =>
    intro e hq
    have z0 : ¬ nI (k + 1 + 1) = 0 := nI_ne0 (by omega) (by omega)
    refine j_iload2 3 dX11_greatestDivisor_2 rfl ?_
    refine j_iconst 4 (v := 1) dX11_greatestDivisor_3 rfl rfl ?_
    refine j_cmp_le 27 7 dX11_greatestDivisor_4 rfl rfl (fun h4 => absurd h4 (nI_ge (a := 1) (b := k + 1 + 1) (by omega) (by omega))) (fun h4 => ?_)
    refine j_iload0 8 dX11_greatestDivisor_7 rfl ?_
    refine j_iload2 9 dX11_greatestDivisor_8 rfl ?_
    refine j_irm 10 dX11_greatestDivisor_9 rfl z0 ?_
    refine j_top (irm_nI (a := a) (b := k + 1 + 1) ha (by omega) (by omega)) ?_
    have ub : a % (k + 1 + 1) < k + 1 + 1 := Nat.mod_lt _ (by omega)
    have ub2 : 10 % (k + 1 + 1) < k + 1 + 1 := Nat.mod_lt _ (by omega)
    refine j_if_ne 21 13 dX11_greatestDivisor_10 rfl rfl (fun h10 => ?_) (fun h10 => ?_)
    · refine j_iinc2 24 (-1) dX11_greatestDivisor_21 rfl rfl rfl rfl ?_
      refine j_goto 2 dX11_greatestDivisor_24 rfl ?_
      rw [pk_m1 (k + 1)]
      refine ih (by omega) ?_
      have n : ¬ (a % (k + 2) = 0 ∧ 10 % (k + 2) = 0) := fun q => by
        first | exact h16 (by rw [show 10 % (k + 1 + 1) = 0 from q.2]; rfl) | exact h10 (by rw [show a % (k + 1 + 1) = 0 from q.1]; rfl)
      rw [show gdF a (k + 1 + 1) = gdF a (k + 1) from if_neg n] at hq
      exact hq
    · refine j_iload1 14 dX11_greatestDivisor_13 rfl ?_
      refine j_iload2 15 dX11_greatestDivisor_14 rfl ?_
      refine j_irm 16 dX11_greatestDivisor_15 rfl z0 ?_
      refine j_top (irm_nI (a := 10) (b := k + 1 + 1) (by decide) (by omega) (by omega)) ?_
      refine j_if_ne 21 19 dX11_greatestDivisor_16 rfl rfl (fun h16 => ?_) (fun h16 => ?_)
      · refine j_iinc2 24 (-1) dX11_greatestDivisor_21 rfl rfl rfl rfl ?_
        refine j_goto 2 dX11_greatestDivisor_24 rfl ?_
        rw [pk_m1 (k + 1)]
        refine ih (by omega) ?_
        have n : ¬ (a % (k + 2) = 0 ∧ 10 % (k + 2) = 0) := fun q => by
          first | exact h16 (by rw [show 10 % (k + 1 + 1) = 0 from q.2]; rfl) | exact h10 (by rw [show a % (k + 1 + 1) = 0 from q.1]; rfl)
        rw [show gdF a (k + 1 + 1) = gdF a (k + 1) from if_neg n] at hq
        exact hq
      · refine j_iload2 20 dX11_greatestDivisor_19 rfl ?_
        refine j_iret dX11_greatestDivisor_20 rfl ?_
        have p1 := (nI_eq (b := 0) (by omega) (by omega)).mp h10; have p2 := (nI_eq (b := 0) (by omega) (by omega)).mp h16; rw [show gdF a (k + 1 + 1) = k + 2 from if_pos ⟨p1, p2⟩] at hq; exact hq
set_option maxRecDepth 100000 in
theorem c_gd (m : Mem) (a : Nat) (ha : a < 2 ^ 31) : JM l g 0 mX11_greatestDivisor [.int (nI a), .int (nI 10)] m (RF (some (.int (nI (gdF a 10)))) m) := by
  refine JM_of (ls := [some (.int (nI a)), some (.int (nI 10)), none]) pn_X11 rfl rfl ?_
  refine j_iload1 1 dX11_greatestDivisor_0 rfl ?_
  refine j_istore2 2 dX11_greatestDivisor_1 rfl rfl rfl ?_
  exact lp_gd m a ha 9 (by decide) ⟨rfl, rfl⟩
set_option maxRecDepth 100000 in
theorem lp_common {Q : Option Value → Mem → Prop} (m : Mem) (v1 v2 : Int32) : ∀ (N y x : Nat) (o : Option Value), y < N → y < 2 ^ 31 → x < 2 ^ 31 → Q (some (.int (nI (Nat.gcd y x)))) m → J l g 0 mX12_common 4 [some (.int v1), some (.int v2), some (.int (nI x)), some (.int (nI y)), o] [] m Q := by
  intro N
  induction N with
  | zero => intro y x o h; omega
  | succ N ih =>
    intro y x o h hy hx hq
    refine j_iload3 5 dX12_common_4 rfl ?_
    refine j_if_eq 21 8 dX12_common_5 rfl rfl (fun h5 => ?_) (fun h5 => ?_)
    · refine j_iload2 22 dX12_common_21 rfl ?_
      refine j_iret dX12_common_22 rfl ?_
      have p1 := (nI_eq (b := 0) hy (by omega)).mp h5; rw [p1, Nat.gcd_zero_left] at hq; exact hq
    · refine j_iload2 9 dX12_common_8 rfl ?_
      refine j_iload3 10 dX12_common_9 rfl ?_
      refine j_irm 11 dX12_common_10 rfl h5 ?_
      have y0 : 0 < y := Nat.pos_of_ne_zero (fun q => h5 (by rw [q]; rfl))
      have ub := Nat.mod_lt x y0
      refine j_top (irm_nI (a := x) (b := y) hx y0 hy) ?_
      refine j_istore4 13 dX12_common_11 rfl rfl rfl ?_
      refine j_iload3 14 dX12_common_13 rfl ?_
      refine j_istore2 15 dX12_common_14 rfl rfl rfl ?_
      refine j_iload4 17 dX12_common_15 rfl ?_
      refine j_istore3 18 dX12_common_17 rfl rfl rfl ?_
      refine j_goto 4 dX12_common_18 rfl ?_
      refine ih (x % y) y _ (by omega) (by omega) hy ?_
      rw [Nat.gcd_rec] at hq
      exact hq
set_option maxRecDepth 100000 in
theorem c_common (m : Mem) (a b : Nat) (ha : a < 2 ^ 31) (hb : b < 2 ^ 31) : JM l g 0 mX12_common [.int (nI a), .int (nI b)] m (RF (some (.int (nI (Nat.gcd b a)))) m) := by
  refine JM_of (ls := [some (.int (nI a)), some (.int (nI b)), none, none, none]) pn_X12 rfl rfl ?_
  refine j_iload0 1 dX12_common_0 rfl ?_
  refine j_istore2 2 dX12_common_1 rfl rfl rfl ?_
  refine j_iload1 3 dX12_common_2 rfl ?_
  refine j_istore3 4 dX12_common_3 rfl rfl rfl ?_
  exact lp_common m _ _ (b + 1) b a none (Nat.lt_succ_self b) hb ha ⟨rfl, rfl⟩
set_option maxRecDepth 100000 in
theorem e_odds (m : Mem) (a b v : Int32) (c : ¬ ((0 ≤ a ∧ a < m 9 9 ∧ a < 8) ∧ (0 ≤ b ∧ b ≤ 60) ∧ (0 ≤ v ∧ v ≤ 1))) : JM l g 2 mX11_odds [rf g 0, .int a, .int b, .int v] m (RF (some (.int (-1000000001))) (errC 1 m)) := by
  refine JM_of (ls := [some (rf g 0), some (.int a), some (.int b), some (.int v), none, none, none]) pn_X11 rfl rfl ?_
  refine j_aload0 1 dX11_odds_0 rfl ?_
  refine j_iload1 2 dX11_odds_1 rfl ?_
  refine j_vi1f 5 dX11_odds_2 rfl rfl cl_X11_124 rfl rfl (c_isHeir m a) ?_
  refine j_if_eq_bz 27 8 dX11_odds_5 rfl rfl (fun h5 => ?_) (fun h5 => ?_)
  · refine j_aload0 28 dX11_odds_27 rfl ?_
    refine j_ldc 30 dX11_odds_28 rfl kc_X11_81 ?_
    refine j_vi1f 33 dX11_odds_30 rfl rfl cl_X11_82 rfl rfl (c_err1 m) ?_
    refine j_iret dX11_odds_33 rfl ?_
    exact ⟨rfl, rfl⟩
  · refine j_iload2 9 dX11_odds_8 rfl ?_
    refine j_iconst 10 (v := 0) dX11_odds_9 rfl rfl ?_
    refine j_bipush 12 (v := 60) dX11_odds_10 rfl rfl ?_
    refine j_st3f 15 dX11_odds_12 rfl rfl cl_X11_86 rfl (c_within m b 0 60) ?_
    refine j_if_eq_bz 27 18 dX11_odds_15 rfl rfl (fun h15 => ?_) (fun h15 => ?_)
    · refine j_aload0 28 dX11_odds_27 rfl ?_
      refine j_ldc 30 dX11_odds_28 rfl kc_X11_81 ?_
      refine j_vi1f 33 dX11_odds_30 rfl rfl cl_X11_82 rfl rfl (c_err1 m) ?_
      refine j_iret dX11_odds_33 rfl ?_
      exact ⟨rfl, rfl⟩
    · refine j_iload3 19 dX11_odds_18 rfl ?_
      refine j_iconst 20 (v := 0) dX11_odds_19 rfl rfl ?_
      refine j_iconst 21 (v := 1) dX11_odds_20 rfl rfl ?_
      refine j_st3f 24 dX11_odds_21 rfl rfl cl_X11_86 rfl (c_within m v 0 1) ?_
      refine j_if_ne_bz 34 27 dX11_odds_24 rfl rfl (fun h24 => ?_) (fun h24 => ?_)
      · exact absurd ⟨h5, h15, h24⟩ c
      · refine j_aload0 28 dX11_odds_27 rfl ?_
        refine j_ldc 30 dX11_odds_28 rfl kc_X11_81 ?_
        refine j_vi1f 33 dX11_odds_30 rfl rfl cl_X11_82 rfl rfl (c_err1 m) ?_
        refine j_iret dX11_odds_33 rfl ?_
        exact ⟨rfl, rfl⟩
set_option maxRecDepth 100000 in
theorem f_odds (m : Mem) (a b v : Int32) (c : ¬ ((0 ≤ a ∧ a ≤ m 69 0 - 1) ∧ (0 ≤ b ∧ b ≤ 60) ∧ (0 ≤ v ∧ v ≤ 1))) : JM l g 2 mX12_odds [rf g 68, .int a, .int b, .int v] m (RF (some (.int (-1000000001))) (errM 1 m)) := by
  refine JM_of (ls := [some (rf g 68), some (.int a), some (.int b), some (.int v), none, none]) pn_X12 rfl rfl ?_
  refine j_aload0 1 dX12_odds_0 rfl ?_
  refine j_iload1 2 dX12_odds_1 rfl ?_
  refine j_vi1f 5 dX12_odds_2 rfl rfl cl_X12_199 rfl rfl (c_misHeir m a) ?_
  refine j_if_eq_bz 30 8 dX12_odds_5 rfl rfl (fun h5 => ?_) (fun h5 => ?_)
  · refine j_aload0 31 dX12_odds_30 rfl ?_
    refine j_iconst 32 (v := 1) dX12_odds_31 rfl rfl ?_
    refine j_vi1f 35 dX12_odds_32 rfl rfl cl_X12_126 rfl rfl (c_finds1 m) ?_
    refine j_iret dX12_odds_35 rfl ?_
    exact ⟨rfl, rfl⟩
  · refine j_iload2 9 dX12_odds_8 rfl ?_
    refine j_i2l 10 dX12_odds_9 rfl ?_
    refine j_lconst 11 (v := 0) dX12_odds_10 rfl rfl ?_
    refine j_ldc2 14 dX12_odds_11 rfl kl_X12_212 ?_
    refine j_st3f 17 dX12_odds_14 rfl rfl cl_X12_47 rfl (c_in m b 0 60) ?_
    refine j_if_eq_bz 30 20 dX12_odds_17 rfl rfl (fun h17 => ?_) (fun h17 => ?_)
    · refine j_aload0 31 dX12_odds_30 rfl ?_
      refine j_iconst 32 (v := 1) dX12_odds_31 rfl rfl ?_
      refine j_vi1f 35 dX12_odds_32 rfl rfl cl_X12_126 rfl rfl (c_finds1 m) ?_
      refine j_iret dX12_odds_35 rfl ?_
      exact ⟨rfl, rfl⟩
    · refine j_iload3 21 dX12_odds_20 rfl ?_
      refine j_i2l 22 dX12_odds_21 rfl ?_
      refine j_lconst 23 (v := 0) dX12_odds_22 rfl rfl ?_
      refine j_lconst 24 (v := 1) dX12_odds_23 rfl rfl ?_
      refine j_st3f 27 dX12_odds_24 rfl rfl cl_X12_47 rfl (c_in m v 0 1) ?_
      refine j_if_ne_bz 36 30 dX12_odds_27 rfl rfl (fun h27 => ?_) (fun h27 => ?_)
      · exact absurd ⟨h5, h17, h27⟩ c
      · refine j_aload0 31 dX12_odds_30 rfl ?_
        refine j_iconst 32 (v := 1) dX12_odds_31 rfl rfl ?_
        refine j_vi1f 35 dX12_odds_32 rfl rfl cl_X12_126 rfl rfl (c_finds1 m) ?_
        refine j_iret dX12_odds_35 rfl ?_
        exact ⟨rfl, rfl⟩
def odA (v : Int32) (c : Nat) : Int32 := (if v = 0 then nI c else nI 10) / nI (gdF c 10)
set_option maxRecDepth 100000 in
theorem oe_odds (x1 x2 v : Int32) (c : Nat) (hc : c ≤ 10) (o : Value) (m m0 : Mem) (hs : Sm thS m0 m) : J l g 6 mX11_odds 96 [some (rf g 0), some (.int x1), some (.int x2), some (.int v), some (.int (nI 10)), some (.int (nI c)), some o] [] m (RS (some (.int (odA v c))) (Sm thS m0)) := by
  have gp := gd_pos c (by omega)
  have z0 : ¬ nI (gdF c 10) = 0 := nI_ne0 gp.1 (by omega)
  refine j_iload5 98 dX11_odds_96 rfl ?_
  refine j_iload4 100 dX11_odds_98 rfl ?_
  refine j_st2f 103 dX11_odds_100 rfl rfl cl_X11_247 rfl (c_gd m c (by omega)) ?_
  refine j_istore6 105 dX11_odds_103 rfl rfl rfl ?_
  refine j_iload3 106 dX11_odds_105 rfl ?_
  refine j_if_ne 114 109 dX11_odds_106 rfl rfl (fun h106 => ?_) (fun h106 => ?_)
  · refine j_iload4 116 dX11_odds_114 rfl ?_
    refine j_iload6 118 dX11_odds_116 rfl ?_
    refine j_idiv 119 dX11_odds_118 rfl z0 ?_
    refine j_iret dX11_odds_119 rfl ?_
    first | exact ⟨by unfold odA; rw [if_pos h106], hs⟩ | exact ⟨by unfold odA; rw [if_neg h106], hs⟩
  · refine j_iload5 111 dX11_odds_109 rfl ?_
    refine j_goto 116 dX11_odds_111 rfl ?_
    refine j_iload6 118 dX11_odds_116 rfl ?_
    refine j_idiv 119 dX11_odds_118 rfl z0 ?_
    refine j_iret dX11_odds_119 rfl ?_
    first | exact ⟨by unfold odA; rw [if_pos h106], hs⟩ | exact ⟨by unfold odA; rw [if_neg h106], hs⟩
set_option maxRecDepth 100000 in
theorem om_odds (x1 x2 v : Int32) (c : Nat) (hc : c ≤ 10) (o : Value) (m m0 : Mem) (hs : MK m0 m) : J l g 7 mX12_odds 94 [some (rf g 68), some (.int x1), some (.int x2), some (.int v), some (.int (nI c)), some o] [] m (RS (some (.int (odA v c))) (MK m0)) := by
  have gp := gd_pos c (by omega)
  have z0 : ¬ nI (gdF c 10) = 0 := nI_ne0 gp.1 (by omega)
  refine j_iload3 95 dX12_odds_94 rfl ?_
  refine j_if_ne 103 98 dX12_odds_95 rfl rfl (fun h95 => ?_) (fun h95 => ?_)
  · refine j_bipush 105 (v := 10) dX12_odds_103 rfl rfl ?_
    refine j_iload4 107 dX12_odds_105 rfl ?_
    refine j_bipush 109 (v := nI 10) dX12_odds_107 rfl rfl ?_
    refine j_st2f 112 dX12_odds_109 rfl rfl cl_X12_252 rfl (c_common m c 10 (by omega) (by decide)) ?_
    rw [← gd_gcd c (by omega)]
    refine j_idiv 113 dX12_odds_112 rfl z0 ?_
    refine j_iret dX12_odds_113 rfl ?_
    first | exact ⟨by unfold odA; rw [if_pos h95], hs⟩ | exact ⟨by unfold odA; rw [if_neg h95]; rfl, hs⟩
  · refine j_iload4 100 dX12_odds_98 rfl ?_
    refine j_goto 105 dX12_odds_100 rfl ?_
    refine j_iload4 107 dX12_odds_105 rfl ?_
    refine j_bipush 109 (v := nI 10) dX12_odds_107 rfl rfl ?_
    refine j_st2f 112 dX12_odds_109 rfl rfl cl_X12_252 rfl (c_common m c 10 (by omega) (by decide)) ?_
    rw [← gd_gcd c (by omega)]
    refine j_idiv 113 dX12_odds_112 rfl z0 ?_
    refine j_iret dX12_odds_113 rfl ?_
    first | exact ⟨by unfold odA; rw [if_pos h95], hs⟩ | exact ⟨by unfold odA; rw [if_neg h95]; rfl, hs⟩
set_option maxRecDepth 100000 in
theorem o_odds (m : Mem) (d : Nat → Int32) (w : WF d) (hT : TR 9 m d) (hP : PR 36 m d) (h n : Nat) (v : Int32) (hh : h < 8) (hn60 : n ≤ 60) (h1 : 0 ≤ nI h ∧ nI h < m 9 9 ∧ nI h < 8) (h3 : 0 ≤ v ∧ v ≤ 1) : JM l g 6 mX11_odds [rf g 0, .int (nI h), .int (nI n), .int v] m (RS (some (.int (odA v (cN (odP d n h) 10)))) (Sm thS m)) := by
  refine JM_of (ls := [some (rf g 0), some (.int (nI h)), some (.int (nI n)), some (.int v), none, none, none]) pn_X11 rfl rfl ?_
  refine j_aload0 1 dX11_odds_0 rfl ?_
  refine j_iload1 2 dX11_odds_1 rfl ?_
  refine j_vi1f 5 dX11_odds_2 rfl rfl cl_X11_124 rfl rfl (c_isHeir m _) ?_
  refine j_if_eq_bz 27 8 dX11_odds_5 rfl rfl (fun h5 => absurd h1 h5) (fun h5 => ?_)
  refine j_iload2 9 dX11_odds_8 rfl ?_
  refine j_iconst 10 (v := 0) dX11_odds_9 rfl rfl ?_
  refine j_bipush 12 (v := 60) dX11_odds_10 rfl rfl ?_
  refine j_st3f 15 dX11_odds_12 rfl rfl cl_X11_86 rfl (c_within m _ 0 60) ?_
  refine j_if_eq_bz 27 18 dX11_odds_15 rfl rfl (fun h15 => absurd ((rngN 60 (by decide)).mpr ⟨n, hn60, rfl⟩) h15) (fun h15 => ?_)
  refine j_iload3 19 dX11_odds_18 rfl ?_
  refine j_iconst 20 (v := 0) dX11_odds_19 rfl rfl ?_
  refine j_iconst 21 (v := 1) dX11_odds_20 rfl rfl ?_
  refine j_st3f 24 dX11_odds_21 rfl rfl cl_X11_86 rfl (c_within m _ 0 1) ?_
  refine j_if_ne_bz 34 27 dX11_odds_24 rfl rfl (fun h24 => ?_) (fun h24 => absurd h3 h24)
  refine j_bipush 36 (v := nI 10) dX11_odds_34 rfl rfl ?_
  refine j_istore4 38 dX11_odds_36 rfl rfl rfl ?_
  refine j_iconst 39 (v := 0) dX11_odds_38 rfl rfl ?_
  refine j_istore5 41 dX11_odds_39 rfl rfl rfl ?_
  refine j_iconst 42 (v := 0) dX11_odds_41 rfl rfl ?_
  refine j_istore6 44 dX11_odds_42 rfl rfl rfl ?_
  exact lp_odds d w h n hh hn60 v m hT hP (fun m' s => oe_odds _ _ v _ (cN_le _ 10) _ m' m s) 10 0 m rfl Sm.rf
set_option maxRecDepth 100000 in
theorem p_odds (m : Mem) (w : WF (m 69)) (hd : nb (m 69 1) 10000) (h n : Nat) (v : Int32) (hh : h < 8) (hn60 : n ≤ 60) (h1 : 0 ≤ nI h ∧ nI h ≤ m 69 0 - 1) (h3 : 0 ≤ v ∧ v ≤ 1) : JM l g 7 mX12_odds [rf g 68, .int (nI h), .int (nI n), .int v] m (RS (some (.int (odA v (cN (odP (m 69) n h) 10)))) (MK m)) := by
  refine JM_of (ls := [some (rf g 68), some (.int (nI h)), some (.int (nI n)), some (.int v), none, none]) pn_X12 rfl rfl ?_
  refine j_aload0 1 dX12_odds_0 rfl ?_
  refine j_iload1 2 dX12_odds_1 rfl ?_
  refine j_vi1f 5 dX12_odds_2 rfl rfl cl_X12_199 rfl rfl (c_misHeir m _) ?_
  refine j_if_eq_bz 30 8 dX12_odds_5 rfl rfl (fun h5 => absurd h1 h5) (fun h5 => ?_)
  refine j_iload2 9 dX12_odds_8 rfl ?_
  refine j_i2l 10 dX12_odds_9 rfl ?_
  refine j_lconst 11 (v := 0) dX12_odds_10 rfl rfl ?_
  refine j_ldc2 14 dX12_odds_11 rfl kl_X12_212 ?_
  refine j_st3f 17 dX12_odds_14 rfl rfl cl_X12_47 rfl (c_in m _ 0 60) ?_
  refine j_if_eq_bz 30 20 dX12_odds_17 rfl rfl (fun h17 => absurd ((rngN 60 (by decide)).mpr ⟨n, hn60, rfl⟩) h17) (fun h17 => ?_)
  refine j_iload3 21 dX12_odds_20 rfl ?_
  refine j_i2l 22 dX12_odds_21 rfl ?_
  refine j_lconst 23 (v := 0) dX12_odds_22 rfl rfl ?_
  refine j_lconst 24 (v := 1) dX12_odds_23 rfl rfl ?_
  refine j_st3f 27 dX12_odds_24 rfl rfl cl_X12_47 rfl (c_in m _ 0 1) ?_
  refine j_if_ne_bz 36 30 dX12_odds_27 rfl rfl (fun h27 => ?_) (fun h27 => absurd h3 h27)
  refine j_aload0 37 dX12_odds_36 rfl ?_
  refine j_vi0v 40 dX12_odds_37 rfl rfl cl_X12_226 rfl rfl (c_keepAside m) ?_
  refine j_iconst 41 (v := 0) dX12_odds_40 rfl rfl ?_
  refine j_istore4 43 dX12_odds_41 rfl rfl rfl ?_
  refine j_iconst 44 (v := 0) dX12_odds_43 rfl rfl ?_
  refine j_istore5 46 dX12_odds_44 rfl rfl rfl ?_
  exact lm_odds (m 69) (m 71) w hd h n hh hn60 v _ upR_s (fun m' r s => om_odds _ _ v _ (cN_le _ 10) _ m' m ⟨r, (Sm.rf.row (by decide)).trans (s.mono (by decide))⟩) 10 0 _ rfl (upR_n (by decide)) Sm.rf
theorem op_odds {m : Mem} (I : INV m) (a b v : Int32) : OPr l g mX11_odds mX12_odds [.int a, .int b, .int v] m := by
  obtain ⟨⟨wf, hd, hT, hP⟩, -⟩ := id I
  by_cases c : (0 ≤ a ∧ a < m 69 0 ∧ a < 8) ∧ (0 ≤ b ∧ b ≤ 60) ∧ (0 ≤ v ∧ v ≤ 1)
  · obtain ⟨h1, h2, h3⟩ := c
    obtain ⟨i, hi, rfl⟩ := (isH_c wf).mp h1
    obtain ⟨n, hn, rfl⟩ := (rngN 60 (by decide)).mp h2
    have n8 := wf.n.1
    have hh : i < 8 := by omega
    refine OPr_ask (d2 := 7) I (by decide) (by decide) (o_odds m (m 69) wf hT hP i n v hh hn (by rw [hT.1]; exact h1) h3) (fun m' s => ?_)
    have e := dn s
    have hq := p_odds (l := l) (g := g) m' (by rw [e]; exact wf) (by rw [e]; exact hd) i n v hh hn (by rw [e]; exact (isH_m wf).mpr ⟨i, hi, rfl⟩) h3
    rw [e] at hq
    exact hq
  · exact OPr_err I (by decide) (by decide) (by decide) (e_odds m a b v (by rw [hT.1]; exact c)) (f_odds _ a b v (fun q => c ⟨(isH_c wf).mpr ((isH_m wf).mp (by have := q.1; rw [errC_o (by decide)] at this; exact this)), q.2⟩))
end O19
