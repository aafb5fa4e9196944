abbrev bitf (x : Int32) (i : Nat) : Int32 := (x >>> (nI i &&& 31)) &&& 1
theorem bit_ex : ∀ s : Fin 256, s.val ≠ 0 → ∃ i : Fin 8, bitf (nI s.val) i.val ≠ 0 := by decide +kernel
theorem least_bit (P : Nat → Prop) [DecidablePred P] {n : Nat} (hn : n ≤ 8) (h : setF P n ≠ 0) : ∃ i, i < 8 ∧ bitf (setF P n) i ≠ 0 ∧ ∀ j, j < i → bitf (setF P n) j = 0 := by
  have l1 := sN_lt P n
  have l2 : 2 ^ n ≤ 256 := Nat.pow_le_pow_right (by decide) hn
  rw [setF_sN P n hn] at h ⊢
  obtain ⟨⟨i, hi⟩, h1⟩ := bit_ex ⟨sN P n, by omega⟩ (fun q => h (by have q : sN P n = 0 := q; rw [q]; rfl))
  obtain ⟨k, hk, hl⟩ := pk_least (fun i => bitf (nI (sN P n)) i ≠ 0) ⟨i, h1⟩
  refine ⟨k, ?_, hk, fun j hj => Classical.not_not.mp (hl j hj)⟩
  by_cases q : i < k
  · exact absurd h1 (hl i q)
  · omega
theorem dayn {d : Nat → Int32} (w : WF d) : hn (dayF d) = hn d := by show (dayF d 0).toNatClampNeg = _; rw [dayF_k w (by omega) (by omega) (by omega)]
theorem itn : ∀ (n : Nat) {d : Nat → Int32}, WF d → hn (itD n d) = hn d
  | 0, _, _ => rfl
  | n + 1, d, w => by show hn (itD n (dayF d)) = _; rw [itn n (WF_day w), dayn w]
theorem itnb (n : Nat) {d : Nat → Int32} (w : WF d) {N : Nat} (h : nb (d 1) N) : nb (itD n d 1) (N + n) := by
  rw [itD_1 n w]
  obtain ⟨j, hj, ej⟩ := h
  exact ⟨j + n, by omega, by rw [ej, nI_add]⟩
section O8
variable {l : Launch} {g : Gv}
set_option maxRecDepth 100000 in
theorem lp_cleast {Q : Option Value → Mem → Prop} (m : Mem) (x : Int32) (i0 : Nat) (h0 : i0 < 8) (hb : bitf x i0 ≠ 0) (hl : ∀ j, j < i0 → bitf x j = 0) (hq : Q (some (.int (nI i0))) m) : ∀ (k i : Nat), i + k = i0 → J l g 0 mX11_leastOf 2 [some (.int x), some (.int (nI i))] [] m Q := by
  intro k
  induction k with
  | zero =>
    intro i e
    have e : i = i0 := by omega
    subst e
    refine j_iload1 3 dX11_leastOf_2 rfl ?_
    refine j_bipush 5 (v := 8) dX11_leastOf_3 rfl rfl ?_
    refine j_cmp_ge 22 8 dX11_leastOf_5 rfl rfl (fun h5 => absurd h5 (show ¬ (8 : Int32) ≤ nI i from nI_ge (a := i) (b := 8) h0 (by decide))) (fun h5 => ?_)
    refine j_iload0 9 dX11_leastOf_8 rfl ?_
    refine j_iload1 10 dX11_leastOf_9 rfl ?_
    refine j_ishr 11 dX11_leastOf_10 rfl ?_
    refine j_iconst 12 (v := 1) dX11_leastOf_11 rfl rfl ?_
    refine j_iand 13 dX11_leastOf_12 rfl ?_
    refine j_if_ne 22 16 dX11_leastOf_13 rfl rfl (fun h13 => ?_) (fun h13 => absurd h13 hb)
    refine j_iload1 23 dX11_leastOf_22 rfl ?_
    refine j_iret dX11_leastOf_23 rfl ?_
    exact hq
  | succ k ih =>
    intro i e
    have e2 : nI i + 1 = nI (i + 1) := nI_1 i
    refine j_iload1 3 dX11_leastOf_2 rfl ?_
    refine j_bipush 5 (v := 8) dX11_leastOf_3 rfl rfl ?_
    refine j_cmp_ge 22 8 dX11_leastOf_5 rfl rfl (fun h5 => absurd h5 (show ¬ (8 : Int32) ≤ nI i from nI_ge (a := i) (b := 8) (by omega) (by decide))) (fun h5 => ?_)
    refine j_iload0 9 dX11_leastOf_8 rfl ?_
    refine j_iload1 10 dX11_leastOf_9 rfl ?_
    refine j_ishr 11 dX11_leastOf_10 rfl ?_
    refine j_iconst 12 (v := 1) dX11_leastOf_11 rfl rfl ?_
    refine j_iand 13 dX11_leastOf_12 rfl ?_
    refine j_if_ne 22 16 dX11_leastOf_13 rfl rfl (fun h13 => absurd h13 (fun q => q (hl i (by omega)))) (fun h13 => ?_)
    refine j_iinc1 19 (1) dX11_leastOf_16 rfl rfl rfl rfl ?_
    refine j_goto 2 dX11_leastOf_19 rfl ?_
    rw [e2]
    exact ih (i + 1) (by omega)
set_option maxRecDepth 100000 in
theorem c_cleast (m : Mem) (x : Int32) (i0 : Nat) (h0 : i0 < 8) (hb : bitf x i0 ≠ 0) (hl : ∀ j, j < i0 → bitf x j = 0) : JM l g 0 mX11_leastOf [.int x] m (RF (some (.int (nI i0))) m) := by
  refine JM_of (ls := [some (.int x), none]) pn_X11 rfl rfl ?_
  refine j_iconst 1 (v := 0) dX11_leastOf_0 rfl rfl ?_
  refine j_istore1 2 dX11_leastOf_1 rfl rfl rfl ?_
  exact lp_cleast m x i0 h0 hb hl ⟨rfl, rfl⟩ i0 0 (Nat.zero_add _)
set_option maxRecDepth 100000 in
theorem lp_mleast {Q : Option Value → Mem → Prop} (m : Mem) (x : Int32) (i0 : Nat) (h0 : i0 < 8) (hb : bitf x i0 ≠ 0) (hl : ∀ j, j < i0 → bitf x j = 0) (hq : Q (some (.int (nI i0))) m) : ∀ (k i : Nat), i + k = i0 → J l g 0 mX12_leastOf 2 [some (.int x), some (.int (nI i))] [] m Q := by
  intro k
  induction k with
  | zero =>
    intro i e
    have e : i = i0 := by omega
    subst e
    refine j_iload0 3 dX12_leastOf_2 rfl ?_
    refine j_iload1 4 dX12_leastOf_3 rfl ?_
    refine j_ishr 5 dX12_leastOf_4 rfl ?_
    refine j_iconst 6 (v := 1) dX12_leastOf_5 rfl rfl ?_
    refine j_iand 7 dX12_leastOf_6 rfl ?_
    refine j_if_ne 16 10 dX12_leastOf_7 rfl rfl (fun h7 => ?_) (fun h7 => absurd h7 hb)
    refine j_iload1 17 dX12_leastOf_16 rfl ?_
    refine j_iret dX12_leastOf_17 rfl ?_
    exact hq
  | succ k ih =>
    intro i e
    have e2 : nI i + 1 = nI (i + 1) := nI_1 i
    refine j_iload0 3 dX12_leastOf_2 rfl ?_
    refine j_iload1 4 dX12_leastOf_3 rfl ?_
    refine j_ishr 5 dX12_leastOf_4 rfl ?_
    refine j_iconst 6 (v := 1) dX12_leastOf_5 rfl rfl ?_
    refine j_iand 7 dX12_leastOf_6 rfl ?_
    refine j_if_ne 16 10 dX12_leastOf_7 rfl rfl (fun h7 => absurd h7 (fun q => q (hl i (by omega)))) (fun h7 => ?_)
    refine j_iinc1 13 (1) dX12_leastOf_10 rfl rfl rfl rfl ?_
    refine j_goto 2 dX12_leastOf_13 rfl ?_
    rw [e2]
    exact ih (i + 1) (by omega)
set_option maxRecDepth 100000 in
theorem c_mleast (m : Mem) (x : Int32) (i0 : Nat) (h0 : i0 < 8) (hb : bitf x i0 ≠ 0) (hl : ∀ j, j < i0 → bitf x j = 0) : JM l g 0 mX12_leastOf [.int x] m (RF (some (.int (nI i0))) m) := by
  refine JM_of (ls := [some (.int x), none]) pn_X12 rfl rfl ?_
  refine j_iconst 1 (v := 0) dX12_leastOf_0 rfl rfl ?_
  refine j_istore1 2 dX12_leastOf_1 rfl rfl rfl ?_
  exact lp_mleast m x i0 h0 hb hl ⟨rfl, rfl⟩ i0 0 (Nat.zero_add _)
-- bright: the predicate
set_option maxRecDepth 100000 in
theorem lq_bright {Q : Option Value → Mem → Prop} (h : Nat) (hh : h < 8) (v : Int32) (d0 : Nat → Int32) (w0 : WF d0) (m0 : Mem) (N : Nat) (hN : N ≤ 61) (hno : ∀ j, j < N → ¬ (fun e : Nat → Int32 => v ≤ hf e h 5) (itD j d0))  (kk : ∀ m', TR 18 m' (itD N d0) → LR m' 39 (itD N d0) 0 → LR m' 43 (itD N d0) 1 → Sm thS m0 m' → ∀ o : Option Value, J l g 6 mX11_bright 32 [some (rf g 0), some (.int (nI h)), some (.int v), some (.int (nI N))] [] m' Q) : ∀ (k n : Nat) (m : Mem) (o : Option Value), n + k = N → TR 18 m (itD n d0) → LR m 39 (itD n d0) 0 → LR m 43 (itD n d0) 1 → Sm thS m0 m → J l g 6 mX11_bright 32 [some (rf g 0), some (.int (nI h)), some (.int v), some (.int (nI n))] [] m Q := by
  intro k
  induction k with
  | zero =>
    intro n m o e hT hl0 hl1 hs
    have e : n = N := by omega
    subst e
    exact kk m hT hl0 hl1 hs o
  | succ k ih =>
    intro n m o e hT hl0 hl1 hs
    have e2 : nI n + 1 = nI (n + 1) := nI_1 n
    have w := itD_wf n w0
    have hp := hno n (by omega)
    have f5 : m 26 h = hf (itD n d0) h 5 := hT.2.2.2.2.2.2.2 h hh 5 (by decide)
    refine j_iload3 33 dX11_bright_32 rfl ?_
    refine j_bipush 35 (v := 60) dX11_bright_33 rfl rfl ?_
    refine j_cmp_gt 70 38 dX11_bright_35 rfl rfl (fun h35 => absurd h35 (nI_nlt (a := 60) (b := n) (by omega) (by decide))) (fun h35 => ?_)
    refine j_aload0 39 dX11_bright_38 rfl ?_
    refine j_getR 42 dX11_bright_39 rfl fl_X11_39 rfl rfl ?_
    refine j_getR 45 dX11_bright_42 rfl fl_X11_142 rfl rfl ?_
    refine j_iload1 46 dX11_bright_45 rfl ?_
    refine j_iald 47 _ rfl hh dX11_bright_46 rfl rfl ?_
    refine j_iload2 48 dX11_bright_47 rfl ?_
    refine j_cmp_lt 53 51 dX11_bright_48 rfl rfl (fun h48 => ?_) (fun h48 => absurd (by rw [f5]; exact Int32.not_le.mp hp) h48)
    refine j_aload0 54 dX11_bright_53 rfl ?_
    refine j_getR 57 dX11_bright_54 rfl fl_X11_39 rfl rfl ?_
    refine j_aload0 58 dX11_bright_57 rfl ?_
    refine j_getR 61 dX11_bright_58 rfl fl_X11_48 rfl rfl ?_
    refine j_vi1w 64 dX11_bright_61 rfl rfl cl_X11_213 rfl rfl (c_goDay_18 m (itD n d0) w hT hl0 hl1) (fun m61 q61 => ?_)
    refine j_iinc3 67 (1) dX11_bright_64 rfl rfl rfl rfl ?_
    refine j_goto 32 dX11_bright_67 rfl ?_
    rw [e2]
    have ek : ∀ k, 88 ≤ k → dayF (itD n d0) k = itD n d0 k := fun k hk => dayF_k w (Or.inr hk) (by omega) (by omega)
    exact ih (n + 1) m61 none (by omega) (by rw [itD_s]; exact q61.1) (by rw [itD_s]; exact LR_congr (by decide) hl0 (q61.2 39 (by decide)) (q61.2 40 (by decide)) ek) (by rw [itD_s]; exact LR_congr (by decide) hl1 (q61.2 43 (by decide)) (q61.2 44 (by decide)) ek) (hs.trans (q61.2.mono (by decide)))
set_option maxRecDepth 100000 in
theorem lm_bright {Q : Option Value → Mem → Prop} (h : Nat) (hh : h < 8) (v : Int32) (d0 : Nat → Int32) (w0 : WF d0) (hd0 : nb (d0 1) 10000) (m0 : Mem) (N : Nat) (hN : N ≤ 60) (hno : ∀ j, j < N → ¬ (fun e : Nat → Int32 => v ≤ hf e h 5) (itD j d0))  (kk : ∀ m', m' 69 = itD N d0 → Sm [69, 73, 75] m0 m' → J l g 6 mX12_bright 32 [some (rf g 68), some (.int (nI h)), some (.int v), some (.int (nI N)), none] [] m' Q) : ∀ (k n : Nat) (m : Mem), n + k = N → m 69 = itD n d0 → Sm [69, 73, 75] m0 m → J l g 6 mX12_bright 32 [some (rf g 68), some (.int (nI h)), some (.int v), some (.int (nI n)), none] [] m Q := by
  intro k
  induction k with
  | zero =>
    intro n m e hm hs
    have e : n = N := by omega
    subst e
    exact kk m hm hs
  | succ k ih =>
    intro n m e hm hs
    have e2 : nI n + 1 = nI (n + 1) := nI_1 n
    have w : WF (m 69) := by rw [hm]; exact itD_wf n w0
    have hd : nb (m 69 1) 19999 := by rw [hm]; exact nb_up (itnb n w0 hd0) (by omega)
    have hp := hno n (by omega)
    rw [← hm] at hp

    refine j_iload3 33 dX12_bright_32 rfl ?_
    refine j_bipush 35 (v := 60) dX12_bright_33 rfl rfl ?_
    refine j_cmp_ge 58 38 dX12_bright_35 rfl rfl (fun h35 => absurd h35 (show ¬ (60 : Int32) ≤ nI n from nI_ge (a := n) (b := 60) (by omega) (by decide))) (fun h35 => ?_)
    refine j_aload0 39 dX12_bright_38 rfl ?_
    refine j_iload1 40 dX12_bright_39 rfl ?_
    refine j_iconst 41 (v := 5) dX12_bright_40 rfl rfl ?_
    refine j_vi2f 44 dX12_bright_41 rfl rfl cl_X12_146 rfl rfl (c_of m h 5 hh (by decide)) ?_
    refine j_iload2 45 dX12_bright_44 rfl ?_
    refine j_cmp_ge 58 48 dX12_bright_45 rfl rfl (fun h45 => absurd h45 hp) (fun h45 => ?_)
    refine j_aload0 49 dX12_bright_48 rfl ?_
    refine j_vi0w 52 dX12_bright_49 rfl rfl cl_X12_171 rfl rfl (c_mday m w hd) (fun m49 q49 => ?_)
    refine j_iinc3 55 (1) dX12_bright_52 rfl rfl rfl rfl ?_
    refine j_goto 32 dX12_bright_55 rfl ?_
    rw [e2]
    exact ih (n + 1) m49 (by omega) (by rw [itD_s, q49.1, hm]) (hs.trans q49.2)
set_option maxRecDepth 100000 in
theorem lq_meet {Q : Option Value → Mem → Prop} (a b : Nat) (ha : a < 8) (hb : b < 8) (d0 : Nat → Int32) (w0 : WF d0) (m0 : Mem) (N : Nat) (hN : N ≤ 61) (hno : ∀ j, j < N → ¬ (fun e : Nat → Int32 => hf e a 4 ≠ -1 ∧ hf e a 4 = hf e b 4) (itD j d0))  (kk : ∀ m', TR 18 m' (itD N d0) → LR m' 39 (itD N d0) 0 → LR m' 43 (itD N d0) 1 → Sm thS m0 m' → ∀ o : Option Value, J l g 6 mX11_meet 34 [some (rf g 0), some (.int (nI a)), some (.int (nI b)), some (.int (nI N))] [] m' Q) : ∀ (k n : Nat) (m : Mem) (o : Option Value), n + k = N → TR 18 m (itD n d0) → LR m 39 (itD n d0) 0 → LR m 43 (itD n d0) 1 → Sm thS m0 m → J l g 6 mX11_meet 34 [some (rf g 0), some (.int (nI a)), some (.int (nI b)), some (.int (nI n))] [] m Q := by
  intro k
  induction k with
  | zero =>
    intro n m o e hT hl0 hl1 hs
    have e : n = N := by omega
    subst e
    exact kk m hT hl0 hl1 hs o
  | succ k ih =>
    intro n m o e hT hl0 hl1 hs
    have e2 : nI n + 1 = nI (n + 1) := nI_1 n
    have w := itD_wf n w0
    have hp := hno n (by omega)
    have f3 : m 24 a = hf (itD n d0) a 3 := hT.2.2.2.2.2.2.2 a ha 3 (by decide)
    have f4 : m 25 a = hf (itD n d0) a 4 := hT.2.2.2.2.2.2.2 a ha 4 (by decide)
    have g3 : m 24 b = hf (itD n d0) b 3 := hT.2.2.2.2.2.2.2 b hb 3 (by decide)
    have g4 : m 25 b = hf (itD n d0) b 4 := hT.2.2.2.2.2.2.2 b hb 4 (by decide)
    refine j_iload3 35 dX11_meet_34 rfl ?_
    refine j_bipush 37 (v := 60) dX11_meet_35 rfl rfl ?_
    refine j_cmp_gt 102 40 dX11_meet_37 rfl rfl (fun h37 => absurd h37 (nI_nlt (a := 60) (b := n) (by omega) (by decide))) (fun h37 => ?_)
    refine j_aload0 41 dX11_meet_40 rfl ?_
    refine j_getR 44 dX11_meet_41 rfl fl_X11_39 rfl rfl ?_
    refine j_iload1 45 dX11_meet_44 rfl ?_
    refine j_vi1f 48 dX11_meet_45 rfl rfl cl_X11_149 rfl rfl (c_isDust_18 m a ha) ?_
    refine j_if_eq_bz 85 51 dX11_meet_48 rfl rfl (fun h48 => ?_) (fun h48 => ?_)
    · refine j_aload0 86 dX11_meet_85 rfl ?_
      refine j_getR 89 dX11_meet_86 rfl fl_X11_39 rfl rfl ?_
      refine j_aload0 90 dX11_meet_89 rfl ?_
      refine j_getR 93 dX11_meet_90 rfl fl_X11_48 rfl rfl ?_
      refine j_vi1w 96 dX11_meet_93 rfl rfl cl_X11_213 rfl rfl (c_goDay_18 m (itD n d0) w hT hl0 hl1) (fun m93 q93 => ?_)
      refine j_iinc3 99 (1) dX11_meet_96 rfl rfl rfl rfl ?_
      refine j_goto 34 dX11_meet_99 rfl ?_
      rw [e2]
      have ek : ∀ k, 88 ≤ k → dayF (itD n d0) k = itD n d0 k := fun k hk => dayF_k w (Or.inr hk) (by omega) (by omega)
      exact ih (n + 1) m93 none (by omega) (by rw [itD_s]; exact q93.1) (by rw [itD_s]; exact LR_congr (by decide) hl0 (q93.2 39 (by decide)) (q93.2 40 (by decide)) ek) (by rw [itD_s]; exact LR_congr (by decide) hl1 (q93.2 43 (by decide)) (q93.2 44 (by decide)) ek) (hs.trans (q93.2.mono (by decide)))
    · refine j_aload0 52 dX11_meet_51 rfl ?_
      refine j_getR 55 dX11_meet_52 rfl fl_X11_39 rfl rfl ?_
      refine j_iload2 56 dX11_meet_55 rfl ?_
      refine j_vi1f 59 dX11_meet_56 rfl rfl cl_X11_149 rfl rfl (c_isDust_18 m b hb) ?_
      refine j_if_eq_bz 85 62 dX11_meet_59 rfl rfl (fun h59 => ?_) (fun h59 => ?_)
      · refine j_aload0 86 dX11_meet_85 rfl ?_
        refine j_getR 89 dX11_meet_86 rfl fl_X11_39 rfl rfl ?_
        refine j_aload0 90 dX11_meet_89 rfl ?_
        refine j_getR 93 dX11_meet_90 rfl fl_X11_48 rfl rfl ?_
        refine j_vi1w 96 dX11_meet_93 rfl rfl cl_X11_213 rfl rfl (c_goDay_18 m (itD n d0) w hT hl0 hl1) (fun m93 q93 => ?_)
        refine j_iinc3 99 (1) dX11_meet_96 rfl rfl rfl rfl ?_
        refine j_goto 34 dX11_meet_99 rfl ?_
        rw [e2]
        have ek : ∀ k, 88 ≤ k → dayF (itD n d0) k = itD n d0 k := fun k hk => dayF_k w (Or.inr hk) (by omega) (by omega)
        exact ih (n + 1) m93 none (by omega) (by rw [itD_s]; exact q93.1) (by rw [itD_s]; exact LR_congr (by decide) hl0 (q93.2 39 (by decide)) (q93.2 40 (by decide)) ek) (by rw [itD_s]; exact LR_congr (by decide) hl1 (q93.2 43 (by decide)) (q93.2 44 (by decide)) ek) (hs.trans (q93.2.mono (by decide)))
      · refine j_aload0 63 dX11_meet_62 rfl ?_
        refine j_getR 66 dX11_meet_63 rfl fl_X11_39 rfl rfl ?_
        refine j_getR 69 dX11_meet_66 rfl fl_X11_139 rfl rfl ?_
        refine j_iload1 70 dX11_meet_69 rfl ?_
        refine j_iald 71 _ rfl ha dX11_meet_70 rfl rfl ?_
        refine j_aload0 72 dX11_meet_71 rfl ?_
        refine j_getR 75 dX11_meet_72 rfl fl_X11_39 rfl rfl ?_
        refine j_getR 78 dX11_meet_75 rfl fl_X11_139 rfl rfl ?_
        refine j_iload2 79 dX11_meet_78 rfl ?_
        refine j_iald 80 _ rfl hb dX11_meet_79 rfl rfl ?_
        refine j_cmp_ne 85 83 dX11_meet_80 rfl rfl (fun h80 => ?_) (fun h80 => absurd h80 (fun q => hp ⟨nb_m1 ((w.hw ha).2.2.2.2.1 (by show hf (itD n d0) a 3 = 0; rw [← f3]; exact h48)) (by decide), by rw [← f4, ← g4]; exact q⟩))
        refine j_aload0 86 dX11_meet_85 rfl ?_
        refine j_getR 89 dX11_meet_86 rfl fl_X11_39 rfl rfl ?_
        refine j_aload0 90 dX11_meet_89 rfl ?_
        refine j_getR 93 dX11_meet_90 rfl fl_X11_48 rfl rfl ?_
        refine j_vi1w 96 dX11_meet_93 rfl rfl cl_X11_213 rfl rfl (c_goDay_18 m (itD n d0) w hT hl0 hl1) (fun m93 q93 => ?_)
        refine j_iinc3 99 (1) dX11_meet_96 rfl rfl rfl rfl ?_
        refine j_goto 34 dX11_meet_99 rfl ?_
        rw [e2]
        have ek : ∀ k, 88 ≤ k → dayF (itD n d0) k = itD n d0 k := fun k hk => dayF_k w (Or.inr hk) (by omega) (by omega)
        exact ih (n + 1) m93 none (by omega) (by rw [itD_s]; exact q93.1) (by rw [itD_s]; exact LR_congr (by decide) hl0 (q93.2 39 (by decide)) (q93.2 40 (by decide)) ek) (by rw [itD_s]; exact LR_congr (by decide) hl1 (q93.2 43 (by decide)) (q93.2 44 (by decide)) ek) (hs.trans (q93.2.mono (by decide)))
set_option maxRecDepth 100000 in
theorem lm_meet {Q : Option Value → Mem → Prop} (a b : Nat) (ha : a < 8) (hb : b < 8) (d0 : Nat → Int32) (w0 : WF d0) (hd0 : nb (d0 1) 10000) (m0 : Mem) (N : Nat) (hN : N ≤ 60) (hno : ∀ j, j < N → ¬ (fun e : Nat → Int32 => hf e a 4 ≠ -1 ∧ hf e a 4 = hf e b 4) (itD j d0))  (kk : ∀ m', m' 69 = itD N d0 → Sm [69, 73, 75] m0 m' → J l g 6 mX12_meet 33 [some (rf g 68), some (.int (nI a)), some (.int (nI b)), some (.int (nI N)), none] [] m' Q) : ∀ (k n : Nat) (m : Mem), n + k = N → m 69 = itD n d0 → Sm [69, 73, 75] m0 m → J l g 6 mX12_meet 33 [some (rf g 68), some (.int (nI a)), some (.int (nI b)), some (.int (nI n)), none] [] m Q := by
  intro k
  induction k with
  | zero =>
    intro n m e hm hs
    have e : n = N := by omega
    subst e
    exact kk m hm hs
  | succ k ih =>
    intro n m e hm hs
    have e2 : nI n + 1 = nI (n + 1) := nI_1 n
    have w : WF (m 69) := by rw [hm]; exact itD_wf n w0
    have hd : nb (m 69 1) 19999 := by rw [hm]; exact nb_up (itnb n w0 hd0) (by omega)
    have hp := hno n (by omega)
    rw [← hm] at hp

    refine j_iload3 34 dX12_meet_33 rfl ?_
    refine j_bipush 36 (v := 60) dX12_meet_34 rfl rfl ?_
    refine j_cmp_ge 74 39 dX12_meet_36 rfl rfl (fun h36 => absurd h36 (show ¬ (60 : Int32) ≤ nI n from nI_ge (a := n) (b := 60) (by omega) (by decide))) (fun h36 => ?_)
    refine j_aload0 40 dX12_meet_39 rfl ?_
    refine j_iload1 41 dX12_meet_40 rfl ?_
    refine j_iconst 42 (v := 4) dX12_meet_41 rfl rfl ?_
    refine j_vi2f 45 dX12_meet_42 rfl rfl cl_X12_146 rfl rfl (c_of m a 4 ha (by decide)) ?_
    refine j_iconst 46 (v := -1) dX12_meet_45 rfl rfl ?_
    refine j_cmp_eq 64 49 dX12_meet_46 rfl rfl (fun h46 => ?_) (fun h46 => ?_)
    · refine j_aload0 65 dX12_meet_64 rfl ?_
      refine j_vi0w 68 dX12_meet_65 rfl rfl cl_X12_171 rfl rfl (c_mday m w hd) (fun m65 q65 => ?_)
      refine j_iinc3 71 (1) dX12_meet_68 rfl rfl rfl rfl ?_
      refine j_goto 33 dX12_meet_71 rfl ?_
      rw [e2]
      exact ih (n + 1) m65 (by omega) (by rw [itD_s, q65.1, hm]) (hs.trans q65.2)
    · refine j_aload0 50 dX12_meet_49 rfl ?_
      refine j_iload1 51 dX12_meet_50 rfl ?_
      refine j_iconst 52 (v := 4) dX12_meet_51 rfl rfl ?_
      refine j_vi2f 55 dX12_meet_52 rfl rfl cl_X12_146 rfl rfl (c_of m a 4 ha (by decide)) ?_
      refine j_aload0 56 dX12_meet_55 rfl ?_
      refine j_iload2 57 dX12_meet_56 rfl ?_
      refine j_iconst 58 (v := 4) dX12_meet_57 rfl rfl ?_
      refine j_vi2f 61 dX12_meet_58 rfl rfl cl_X12_146 rfl rfl (c_of m b 4 hb (by decide)) ?_
      refine j_cmp_eq 74 64 dX12_meet_61 rfl rfl (fun h61 => absurd h61 (fun q => hp ⟨h46, q⟩)) (fun h61 => ?_)
      refine j_aload0 65 dX12_meet_64 rfl ?_
      refine j_vi0w 68 dX12_meet_65 rfl rfl cl_X12_171 rfl rfl (c_mday m w hd) (fun m65 q65 => ?_)
      refine j_iinc3 71 (1) dX12_meet_68 rfl rfl rfl rfl ?_
      refine j_goto 33 dX12_meet_71 rfl ?_
      rw [e2]
      exact ih (n + 1) m65 (by omega) (by rw [itD_s, q65.1, hm]) (hs.trans q65.2)
set_option maxRecDepth 100000 in
theorem lq_first {Q : Option Value → Mem → Prop} (s wh : Nat) (hs16 : s < 16) (d0 : Nat → Int32) (w0 : WF d0) (m0 : Mem) (N : Nat) (hN : N ≤ 61) (hno : ∀ j, j < N → ¬ (fun e : Nat → Int32 => setF (fun h => hf e h 4 = nI s) (hn e) ≠ 0) (itD j d0))  (kk : ∀ m', TR 18 m' (itD N d0) → LR m' 39 (itD N d0) 0 → LR m' 43 (itD N d0) 1 → Sm thS m0 m' → ∀ o : Option Value, J l g 6 mX11_first 29 [some (rf g 0), some (.int (nI s)), some (.int (nI wh)), some (.int (nI N)), o] [] m' Q) : ∀ (k n : Nat) (m : Mem) (o : Option Value), n + k = N → TR 18 m (itD n d0) → LR m 39 (itD n d0) 0 → LR m 43 (itD n d0) 1 → Sm thS m0 m → J l g 6 mX11_first 29 [some (rf g 0), some (.int (nI s)), some (.int (nI wh)), some (.int (nI n)), o] [] m Q := by
  intro k
  induction k with
  | zero =>
    intro n m o e hT hl0 hl1 hs
    have e : n = N := by omega
    subst e
    exact kk m hT hl0 hl1 hs o
  | succ k ih =>
    intro n m o e hT hl0 hl1 hs
    have e2 : nI n + 1 = nI (n + 1) := nI_1 n
    have w := itD_wf n w0
    have hp := hno n (by omega)
    have hp2 : setF (fun h => hf (itD n d0) h 4 = nI s) (hn (itD n d0)) = 0 := Classical.not_not.mp hp
    refine j_iload3 30 dX11_first_29 rfl ?_
    refine j_bipush 32 (v := 60) dX11_first_30 rfl rfl ?_
    refine j_cmp_gt 81 35 dX11_first_32 rfl rfl (fun h32 => absurd h32 (nI_nlt (a := 60) (b := n) (by omega) (by decide))) (fun h32 => ?_)
    refine j_aload0 36 dX11_first_35 rfl ?_
    refine j_getR 39 dX11_first_36 rfl fl_X11_39 rfl rfl ?_
    refine j_iload1 40 dX11_first_39 rfl ?_
    refine j_vi1f 43 dX11_first_40 rfl rfl cl_X11_96 rfl rfl (c_dustAt_18 m (itD n d0) w _ (nb_m1 ⟨s, hs16, rfl⟩ (by decide)) hT) ?_
    refine j_istore4 45 dX11_first_43 rfl rfl rfl ?_
    refine j_iload4 47 dX11_first_45 rfl ?_
    refine j_if_eq 64 50 dX11_first_47 rfl rfl (fun h47 => ?_) (fun h47 => absurd hp2 h47)
    refine j_aload0 65 dX11_first_64 rfl ?_
    refine j_getR 68 dX11_first_65 rfl fl_X11_39 rfl rfl ?_
    refine j_aload0 69 dX11_first_68 rfl ?_
    refine j_getR 72 dX11_first_69 rfl fl_X11_48 rfl rfl ?_
    refine j_vi1w 75 dX11_first_72 rfl rfl cl_X11_213 rfl rfl (c_goDay_18 m (itD n d0) w hT hl0 hl1) (fun m72 q72 => ?_)
    refine j_iinc3 78 (1) dX11_first_75 rfl rfl rfl rfl ?_
    refine j_goto 29 dX11_first_78 rfl ?_
    rw [e2]
    have ek : ∀ k, 88 ≤ k → dayF (itD n d0) k = itD n d0 k := fun k hk => dayF_k w (Or.inr hk) (by omega) (by omega)
    exact ih (n + 1) m72 _ (by omega) (by rw [itD_s]; exact q72.1) (by rw [itD_s]; exact LR_congr (by decide) hl0 (q72.2 39 (by decide)) (q72.2 40 (by decide)) ek) (by rw [itD_s]; exact LR_congr (by decide) hl1 (q72.2 43 (by decide)) (q72.2 44 (by decide)) ek) (hs.trans (q72.2.mono (by decide)))
set_option maxRecDepth 100000 in
theorem lm_first {Q : Option Value → Mem → Prop} (s wh : Nat) (hs16 : s < 16) (d0 : Nat → Int32) (w0 : WF d0) (hd0 : nb (d0 1) 10000) (m0 : Mem) (N : Nat) (hN : N ≤ 60) (hno : ∀ j, j < N → ¬ (fun e : Nat → Int32 => setF (fun h => hf e h 4 = nI s) (hn e) ≠ 0) (itD j d0))  (kk : ∀ m', m' 69 = itD N d0 → Sm [69, 73, 75] m0 m' → J l g 6 mX12_first 29 [some (rf g 68), some (.int (nI s)), some (.int (nI wh)), some (.int (nI N)), none] [] m' Q) : ∀ (k n : Nat) (m : Mem), n + k = N → m 69 = itD n d0 → Sm [69, 73, 75] m0 m → J l g 6 mX12_first 29 [some (rf g 68), some (.int (nI s)), some (.int (nI wh)), some (.int (nI n)), none] [] m Q := by
  intro k
  induction k with
  | zero =>
    intro n m e hm hs
    have e : n = N := by omega
    subst e
    exact kk m hm hs
  | succ k ih =>
    intro n m e hm hs
    have e2 : nI n + 1 = nI (n + 1) := nI_1 n
    have w : WF (m 69) := by rw [hm]; exact itD_wf n w0
    have hd : nb (m 69 1) 19999 := by rw [hm]; exact nb_up (itnb n w0 hd0) (by omega)
    have hp := hno n (by omega)
    rw [← hm] at hp
    have hp2 : setF (fun h => hf (m 69) h 4 = nI s) (hn (m 69)) = 0 := Classical.not_not.mp hp
    refine j_iload3 30 dX12_first_29 rfl ?_
    refine j_bipush 32 (v := 60) dX12_first_30 rfl rfl ?_
    refine j_cmp_ge 53 35 dX12_first_32 rfl rfl (fun h32 => absurd h32 (show ¬ (60 : Int32) ≤ nI n from nI_ge (a := n) (b := 60) (by omega) (by decide))) (fun h32 => ?_)
    refine j_aload0 36 dX12_first_35 rfl ?_
    refine j_iload1 37 dX12_first_36 rfl ?_
    refine j_vi1f 40 dX12_first_37 rfl rfl cl_X12_184 rfl rfl (c_lying m _ w) ?_
    refine j_if_ne 53 43 dX12_first_40 rfl rfl (fun h40 => absurd h40 (fun q => q hp2)) (fun h40 => ?_)
    refine j_aload0 44 dX12_first_43 rfl ?_
    refine j_vi0w 47 dX12_first_44 rfl rfl cl_X12_171 rfl rfl (c_mday m w hd) (fun m44 q44 => ?_)
    refine j_iinc3 50 (1) dX12_first_47 rfl rfl rfl rfl ?_
    refine j_goto 29 dX12_first_50 rfl ?_
    rw [e2]
    exact ih (n + 1) m44 (by omega) (by rw [itD_s, q44.1, hm]) (hs.trans q44.2)
end O8
