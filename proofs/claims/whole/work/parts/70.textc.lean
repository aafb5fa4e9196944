/-! the class: read, text -/
def rdF (t : Nat → Int32) (n u : Nat) : PT := leF t n (paF t n u 5) 5 (0, [], true)
abbrev gdR (t : Nat → Int32) (n u : Nat) : Prop := (rdF t n u).2.2 = true ∧ ¬ (rdF t n u).1 < n
theorem rd_b (t : Nat → Int32) (n u : Nat) (hu : u ≤ 1) : (rdF t n u).1 ≤ n ∧ (rdF t n u).2.1.length ≤ (rdF t n u).1 := by
  obtain ⟨a, b, c⟩ := GB_le (t := t) (GB_pa hu 5) 5 (Nat.le_refl _) (0, [], true) rfl (Nat.zero_le _)
  exact ⟨b, by have c : (rdF t n u).2.1.length + 0 ≤ (rdF t n u).1 + 0 := c; omega⟩
theorem rd_w (t : Nat → Int32) (n u : Nat) (h : (rdF t n u).2.2 = true) : wfL (rdF t n u).2.1 := (GW_le (GW_pa 5) 5 (Nat.le_refl _) (0, [], true) rfl (fun k hk => absurd hk (Nat.not_lt_zero k)) h).1
def RdG (L : Nat) (s : PT) (m m' : Mem) : Prop := m' L 3 = nI s.2.1.length ∧ (∀ k, k < 6 → k ≠ 3 → m' L k = m L k) ∧ (∀ j, j < s.2.1.length → m' (L + 1) j = encT (cdL s.2.1 j)) ∧ ∀ b, b ≠ L → b ≠ L + 1 → b ≠ L + 3 → m' b = m b
def RdB (L : Nat) (m m' : Mem) : Prop := (∀ k, k < 6 → m' L k = m L k) ∧ ∀ b, b ≠ L → b ≠ L + 3 → m' b = m b
section O35
variable {l : Launch} {g : Gv}
theorem KLof_39 (E n o : Nat) (m0 : Mem) (t : Nat → Int32) (pf : PT → PT) (ht : ∀ j, j < 50 → m0 37 j = t j) (hnb : ∀ j, j < 50 → nb (t j) 256) (hn : n ≤ 50) (Gp : GB n pf) (hpf : KP l g 39 (E + 5) n o m0 pf) : ∀ j, j ≤ 5 → KL l g 39 (E + 6 + j) n (5 - j) o m0 (leF t n pf j)
  | 0, _ => level5_39 (E + 5) n o m0 pf hpf
  | j + 1, hj => by
    have ih := KLof_39 E n o m0 t pf ht hnb hn Gp hpf j (by omega)
    have h := level_39 (l := l) (g := g) (E + j) n j o m0 t pf ht hnb hn (by omega) Gp (by rw [show E + j + 6 = E + 6 + j by omega]; exact ih)
    rw [show E + 6 + (j + 1) = E + j + 7 by omega, show 5 - (j + 1) = 4 - j by omega]
    exact h
theorem KPof_39 (v n : Nat) (m0 : Mem) (t : Nat → Int32) (hSO : SO g 0 v) (ht : ∀ j, j < 50 → m0 37 j = t j) (hnb : ∀ j, j < 50 → nb (t j) 256) (hn : n ≤ 50) : ∀ r, r ≤ 5 → KP l g 39 (7 * r + 7) n (5 - r) m0 (paF t n 0 r)
  | 0, _ => part_39 0 0 0 n 5 v m0 t false id id hSO ht hnb hn (Nat.le_refl _) ⟨fun h => (by cases h), fun h => absurd h (by decide)⟩ rfl rfl (fun h => (by cases h)) (fun h => (by cases h)) (fun h => (by cases h)) (fun h => (by cases h))
  | r + 1, hr => by
    have ih := KPof_39 v n m0 t hSO ht hnb hn r (by omega)
    have gp : GB n (paF t n 0 r) := GB_pa (by decide) r
    have kl := KLof_39 (l := l) (g := g) (7 * r + 2) n (5 - r) m0 t (paF t n 0 r) ht hnb hn gp ih 5 (Nat.le_refl _)
    have e5 : 5 - (r + 1) + 1 = 5 - r := by omega
    exact part_39 (7 * r + 7) (7 * r + 7) (7 * r + 2 + 6 + 5) n (5 - (r + 1)) v m0 t true (paF t n 0 r) (leF t n (paF t n 0 r) 5) hSO ht hnb hn (by omega) ⟨fun _ => by omega, fun _ => rfl⟩ (blt_ok (by omega)) (blt_ok (by omega)) (fun _ => gp) (fun _ => GB_le gp 5 (Nat.le_refl _)) (fun _ => by rw [e5]; exact ih) (fun _ => by rw [e5]; exact kl)
theorem KLall_39 (v n : Nat) (m0 : Mem) (t : Nat → Int32) (hSO : SO g 0 v) (ht : ∀ j, j < 50 → m0 37 j = t j) (hnb : ∀ j, j < 50 → nb (t j) 256) (hn : n ≤ 50) : KL l g 39 48 n 0 0 m0 (leF t n (paF t n 0 5) 5) := KLof_39 37 n 0 m0 t _ ht hnb hn (GB_pa (by decide) 5) (KPof_39 v n m0 t hSO ht hnb hn 5 (Nat.le_refl _)) 5 (Nat.le_refl _)
abbrev rm0_39 (m : Mem) : Mem := up2 (up2 (up2 m 39 7 0) 39 6 0) 39 8 0
theorem CR0_39 (m : Mem) : CR 39 m (rm0_39 m) (0, [], true) := ⟨(up2_k (by decide)).trans ((up2_k (by decide)).trans up2_s), up2_s, ⟨0, by decide, (up2_k (by decide)).trans up2_s, fun _ => ⟨rfl, fun j hj => absurd hj (Nat.not_lt_zero j)⟩⟩, fun b b1 b2 => (up2_r b1).trans ((up2_r b1).trans (up2_r b1)), fun k hk => (up2_k (by omega)).trans ((up2_k (by omega)).trans (up2_k (by omega)))⟩
set_option maxRecDepth 100000 in
theorem c_readG_39 (v n : Nat) (m : Mem) (t : Nat → Int32) (hSO : SO g 0 v) (ht : ∀ j, j < 50 → m 37 j = t j) (hnb : ∀ j, j < 50 → nb (t j) 256) (hn : n ≤ 50) (hg : gdR t n 0) : JM l g 49 mX6_read [rf g 39, rf g 37, .int (nI n)] m (RS (some (.int (-1))) (RdG 39 (rdF t n 0) m)) := by
  refine JM_of (ls := [some (rf g 39), some (rf g 37), some (.int (nI n)), none]) pn_X6 rfl rfl ?_
  have eb := rd_b t n 0 (by decide)
  have ein : imin (nI n) (nI 50) = nI n := by rw [imin_N (by omega) (by decide), Nat.min_eq_left hn]
  refine j_aload0 1 dX6_read_0 rfl ?_
  refine j_iconst 2 (v := 0) dX6_read_1 rfl rfl ?_
  refine j_putI 5 dX6_read_2 rfl fp_X6_62 rfl rfl ?_
  refine j_aload0 6 dX6_read_5 rfl ?_
  refine j_iconst 7 (v := 0) dX6_read_6 rfl rfl ?_
  refine j_putI 10 dX6_read_7 rfl fp_X6_65 rfl rfl ?_
  refine j_aload0 11 dX6_read_10 rfl ?_
  refine j_iconst 12 (v := 0) dX6_read_11 rfl rfl ?_
  refine j_putZ 15 (by first | exact Or.inl rfl | exact Or.inr rfl) dX6_read_12 rfl fp_X6_68 rfl rfl ?_
  refine j_iload2 16 dX6_read_15 rfl ?_
  refine j_aload1 17 dX6_read_16 rfl ?_
  refine j_alen 18 dX6_read_17 rfl rfl ?_
  refine j_top (z := nI 50) rfl ?_
  refine j_mmin 21 dX6_read_18 rfl rfl cl_X6_36 rfl ?_
  refine j_top ein ?_
  refine j_istore3 22 dX6_read_21 rfl rfl rfl ?_
  refine j_aload0 23 dX6_read_22 rfl ?_
  refine j_aload1 24 dX6_read_23 rfl ?_
  refine j_iload3 25 dX6_read_24 rfl ?_
  refine j_iconst 26 (v := nI 0) dX6_read_25 rfl rfl ?_
  refine j_iconst 27 (v := nI 0) dX6_read_26 rfl rfl ?_
  refine j_vi4w 30 dX6_read_27 rfl rfl cl_X6_72 rfl rfl (KLall_39 v n m t hSO ht hnb hn (rm0_39 m) (0, [], true) (CR0_39 m) rfl (Nat.zero_le _) (Nat.zero_le _)) (fun m27 q27 => ?_)
  obtain ⟨e7, e8, ⟨k, hk, e6, hc⟩, ho, hs⟩ := q27
  have e7 : m27 39 7 = nI (rdF t n 0).1 := e7
  have e8 : m27 39 8 = 0 := e8.trans (if_pos hg.1)
  obtain ⟨c1, c2⟩ := hc hg.1
  have c1 : k = (rdF t n 0).2.1.length := c1
  subst c1
  refine j_aload0 31 dX6_read_30 rfl ?_
  refine j_getI 34 dX6_read_31 rfl fl_X6_68 rfl rfl ?_
  refine j_top e8 ?_
  refine j_if_ne 45 37 dX6_read_34 rfl rfl (fun h34 => absurd h34 (fun q => q rfl)) (fun h34 => ?_)
  refine j_aload0 38 dX6_read_37 rfl ?_
  refine j_getI 41 dX6_read_38 rfl fl_X6_62 rfl rfl ?_
  refine j_top e7 ?_
  refine j_iload3 42 dX6_read_41 rfl ?_
  refine j_cmp_ge 50 45 dX6_read_42 rfl rfl (fun h42 => ?_) (fun h42 => absurd (nI_le (Nat.not_lt.mp hg.2) (by omega)) h42)
  refine j_aload0 51 dX6_read_50 rfl ?_
  refine j_aload0 52 dX6_read_51 rfl ?_
  refine j_getR 55 dX6_read_52 rfl fl_X6_18 rfl rfl ?_
  refine j_aload0 56 dX6_read_55 rfl ?_
  refine j_getI 59 dX6_read_56 rfl fl_X6_65 rfl rfl ?_
  refine j_top e6 ?_
  refine j_vi2w 62 dX6_read_59 rfl rfl cl_X6_32 rfl rfl (c_ltake_39_42 m27 _ hk) (fun m59 q59 => ?_)
  refine j_iconst 63 (v := -1) dX6_read_62 rfl rfl ?_
  refine j_iret dX6_read_63 rfl ?_
  exact ⟨rfl, q59.1, fun j h1 h2 => (q59.2.1 j h2).trans (hs j h1), fun j hj => (q59.2.2.1 j hj).trans (c2 j hj), fun b b1 b2 b3 => (q59.2.2.2 b (by simp; omega)).trans (ho b b1 b3)⟩
set_option maxRecDepth 100000 in
theorem c_readB_39 (v n : Nat) (m : Mem) (t : Nat → Int32) (hSO : SO g 0 v) (ht : ∀ j, j < 50 → m 37 j = t j) (hnb : ∀ j, j < 50 → nb (t j) 256) (hn : n ≤ 50) (hg : ¬ gdR t n 0) : JM l g 49 mX6_read [rf g 39, rf g 37, .int (nI n)] m (RS (some (.int (nI (rdF t n 0).1))) (RdB 39 m)) := by
  refine JM_of (ls := [some (rf g 39), some (rf g 37), some (.int (nI n)), none]) pn_X6 rfl rfl ?_
  have eb := rd_b t n 0 (by decide)
  have ein : imin (nI n) (nI 50) = nI n := by rw [imin_N (by omega) (by decide), Nat.min_eq_left hn]
  refine j_aload0 1 dX6_read_0 rfl ?_
  refine j_iconst 2 (v := 0) dX6_read_1 rfl rfl ?_
  refine j_putI 5 dX6_read_2 rfl fp_X6_62 rfl rfl ?_
  refine j_aload0 6 dX6_read_5 rfl ?_
  refine j_iconst 7 (v := 0) dX6_read_6 rfl rfl ?_
  refine j_putI 10 dX6_read_7 rfl fp_X6_65 rfl rfl ?_
  refine j_aload0 11 dX6_read_10 rfl ?_
  refine j_iconst 12 (v := 0) dX6_read_11 rfl rfl ?_
  refine j_putZ 15 (by first | exact Or.inl rfl | exact Or.inr rfl) dX6_read_12 rfl fp_X6_68 rfl rfl ?_
  refine j_iload2 16 dX6_read_15 rfl ?_
  refine j_aload1 17 dX6_read_16 rfl ?_
  refine j_alen 18 dX6_read_17 rfl rfl ?_
  refine j_top (z := nI 50) rfl ?_
  refine j_mmin 21 dX6_read_18 rfl rfl cl_X6_36 rfl ?_
  refine j_top ein ?_
  refine j_istore3 22 dX6_read_21 rfl rfl rfl ?_
  refine j_aload0 23 dX6_read_22 rfl ?_
  refine j_aload1 24 dX6_read_23 rfl ?_
  refine j_iload3 25 dX6_read_24 rfl ?_
  refine j_iconst 26 (v := nI 0) dX6_read_25 rfl rfl ?_
  refine j_iconst 27 (v := nI 0) dX6_read_26 rfl rfl ?_
  refine j_vi4w 30 dX6_read_27 rfl rfl cl_X6_72 rfl rfl (KLall_39 v n m t hSO ht hnb hn (rm0_39 m) (0, [], true) (CR0_39 m) rfl (Nat.zero_le _) (Nat.zero_le _)) (fun m27 q27 => ?_)
  obtain ⟨e7, e8, -, ho, hs⟩ := q27
  have e7 : m27 39 7 = nI (rdF t n 0).1 := e7
  have e8 : m27 39 8 = if (rdF t n 0).2.2 = true then 0 else 1 := e8
  refine j_aload0 31 dX6_read_30 rfl ?_
  refine j_getI 34 dX6_read_31 rfl fl_X6_68 rfl rfl ?_
  refine j_if_ne 45 37 dX6_read_34 rfl rfl (fun h34 => ?_) (fun h34 => ?_)
  · refine j_aload0 46 dX6_read_45 rfl ?_
    refine j_getI 49 dX6_read_46 rfl fl_X6_62 rfl rfl ?_
    refine j_top e7 ?_
    refine j_iret dX6_read_49 rfl ?_
    exact ⟨rfl, hs, ho⟩
  · refine j_aload0 38 dX6_read_37 rfl ?_
    refine j_getI 41 dX6_read_38 rfl fl_X6_62 rfl rfl ?_
    refine j_top e7 ?_
    refine j_iload3 42 dX6_read_41 rfl ?_
    refine j_cmp_ge 50 45 dX6_read_42 rfl rfl (fun h42 => ?_) (fun h42 => ?_)
    · exact absurd (show gdR t n 0 from And.intro (Classical.byContradiction (fun z => by rw [e8, if_neg z] at h34; exact absurd h34 (by decide))) (fun z => nI_ge z (by omega) h42)) hg
    · refine j_aload0 46 dX6_read_45 rfl ?_
      refine j_getI 49 dX6_read_46 rfl fl_X6_62 rfl rfl ?_
      refine j_top e7 ?_
      refine j_iret dX6_read_49 rfl ?_
      exact ⟨rfl, hs, ho⟩
set_option maxRecDepth 100000 in
theorem o_textG_0 (v n : Nat) (m : Mem) (t : Nat → Int32) (hSO : SO g 0 v) (ht : ∀ j, j < 50 → m 37 j = t j) (hnb : ∀ j, j < 50 → nb (t j) 256) (hn : n ≤ 50) (e4 : m 36 4 = nI n) (hg : gdR t n 0) : JM l g 50 mX11_text [rf g 0, .int 0] m (RS (some (.int 1)) (fun m' => ∃ m1, RdG 39 (rdF t n 0) m m1 ∧ m' = up2 m1 36 4 0)) := by
  refine JM_of (ls := [some (rf g 0), some (.int 0), none, none]) pn_X11 rfl rfl ?_
  refine j_iload1 1 dX11_text_0 rfl ?_
  refine j_iconst 2 (v := 0) dX11_text_1 rfl rfl ?_
  refine j_iconst 3 (v := 1) dX11_text_2 rfl rfl ?_
  refine j_st3f 6 dX11_text_3 rfl rfl cl_X11_86 rfl (c_within m _ 0 1) ?_
  refine j_if_ne_bz 16 9 dX11_text_6 rfl rfl (fun h6 => ?_) (fun h6 => absurd (by decide) h6)
  refine j_iload1 17 dX11_text_16 rfl ?_
  refine j_if_ne 30 20 dX11_text_17 rfl rfl (fun h17 => absurd h17 (by decide)) (fun h17 => ?_)
  refine j_aload0 21 dX11_text_20 rfl ?_
  refine j_getR 24 dX11_text_21 rfl fl_X11_48 rfl rfl ?_
  refine j_getR 27 dX11_text_24 rfl fl_X11_183 rfl rfl ?_
  refine j_goto 37 dX11_text_27 rfl ?_
  refine j_astore2 38 dX11_text_37 rfl rfl rfl ?_
  refine j_aload2 39 dX11_text_38 rfl ?_
  refine j_aload0 40 dX11_text_39 rfl ?_
  refine j_getR 43 dX11_text_40 rfl fl_X11_48 rfl rfl ?_
  refine j_getR 46 dX11_text_43 rfl fl_X11_190 rfl rfl ?_
  refine j_aload0 47 dX11_text_46 rfl ?_
  refine j_getR 50 dX11_text_47 rfl fl_X11_48 rfl rfl ?_
  refine j_getI 53 dX11_text_50 rfl fl_X11_174 rfl rfl ?_
  refine j_top e4 ?_
  refine j_vi2s 56 dX11_text_53 rfl rfl cl_X11_193 rfl rfl (c_readG_39 v n m t hSO ht hnb hn hg) (fun m53 q53 => ?_)
  refine j_istore3 57 dX11_text_56 rfl rfl rfl ?_
  refine j_aload0 58 dX11_text_57 rfl ?_
  refine j_getR 61 dX11_text_58 rfl fl_X11_48 rfl rfl ?_
  refine j_iconst 62 (v := 0) dX11_text_61 rfl rfl ?_
  refine j_putI 65 dX11_text_62 rfl fp_X11_174 rfl rfl ?_
  refine j_iload3 66 dX11_text_65 rfl ?_
  refine j_if_ge 73 69 dX11_text_66 rfl rfl (fun h66 => absurd h66 (by decide)) (fun h66 => ?_)
  refine j_iconst 70 (v := 1) dX11_text_69 rfl rfl ?_
  refine j_goto 77 dX11_text_70 rfl ?_
  refine j_iret dX11_text_77 rfl ?_
  exact ⟨rfl, m53, q53, rfl⟩
set_option maxRecDepth 100000 in
theorem o_textB_0 (v n : Nat) (m : Mem) (t : Nat → Int32) (hSO : SO g 0 v) (ht : ∀ j, j < 50 → m 37 j = t j) (hnb : ∀ j, j < 50 → nb (t j) 256) (hn : n ≤ 50) (e4 : m 36 4 = nI n) (hg : ¬ gdR t n 0) : JM l g 50 mX11_text [rf g 0, .int 0] m (RS (some (.int (-10 - nI (rdF t n 0).1))) (fun m' => ∃ m1, RdB 39 m m1 ∧ m' = up2 m1 36 4 0)) := by
  refine JM_of (ls := [some (rf g 0), some (.int 0), none, none]) pn_X11 rfl rfl ?_
  have eb := rd_b t n 0 (by decide)
  refine j_iload1 1 dX11_text_0 rfl ?_
  refine j_iconst 2 (v := 0) dX11_text_1 rfl rfl ?_
  refine j_iconst 3 (v := 1) dX11_text_2 rfl rfl ?_
  refine j_st3f 6 dX11_text_3 rfl rfl cl_X11_86 rfl (c_within m _ 0 1) ?_
  refine j_if_ne_bz 16 9 dX11_text_6 rfl rfl (fun h6 => ?_) (fun h6 => absurd (by decide) h6)
  refine j_iload1 17 dX11_text_16 rfl ?_
  refine j_if_ne 30 20 dX11_text_17 rfl rfl (fun h17 => absurd h17 (by decide)) (fun h17 => ?_)
  refine j_aload0 21 dX11_text_20 rfl ?_
  refine j_getR 24 dX11_text_21 rfl fl_X11_48 rfl rfl ?_
  refine j_getR 27 dX11_text_24 rfl fl_X11_183 rfl rfl ?_
  refine j_goto 37 dX11_text_27 rfl ?_
  refine j_astore2 38 dX11_text_37 rfl rfl rfl ?_
  refine j_aload2 39 dX11_text_38 rfl ?_
  refine j_aload0 40 dX11_text_39 rfl ?_
  refine j_getR 43 dX11_text_40 rfl fl_X11_48 rfl rfl ?_
  refine j_getR 46 dX11_text_43 rfl fl_X11_190 rfl rfl ?_
  refine j_aload0 47 dX11_text_46 rfl ?_
  refine j_getR 50 dX11_text_47 rfl fl_X11_48 rfl rfl ?_
  refine j_getI 53 dX11_text_50 rfl fl_X11_174 rfl rfl ?_
  refine j_top e4 ?_
  refine j_vi2s 56 dX11_text_53 rfl rfl cl_X11_193 rfl rfl (c_readB_39 v n m t hSO ht hnb hn hg) (fun m53 q53 => ?_)
  refine j_istore3 57 dX11_text_56 rfl rfl rfl ?_
  refine j_aload0 58 dX11_text_57 rfl ?_
  refine j_getR 61 dX11_text_58 rfl fl_X11_48 rfl rfl ?_
  refine j_iconst 62 (v := 0) dX11_text_61 rfl rfl ?_
  refine j_putI 65 dX11_text_62 rfl fp_X11_174 rfl rfl ?_
  refine j_iload3 66 dX11_text_65 rfl ?_
  refine j_if_ge 73 69 dX11_text_66 rfl rfl (fun h66 => ?_) (fun h66 => absurd (nI_pos' (by omega)) h66)
  refine j_bipush 75 (v := -10) dX11_text_73 rfl rfl ?_
  refine j_iload3 76 dX11_text_75 rfl ?_
  refine j_isub 77 dX11_text_76 rfl ?_
  refine j_iret dX11_text_77 rfl ?_
  exact ⟨rfl, m53, q53, rfl⟩
theorem KLof_43 (E n o : Nat) (m0 : Mem) (t : Nat → Int32) (pf : PT → PT) (ht : ∀ j, j < 50 → m0 37 j = t j) (hnb : ∀ j, j < 50 → nb (t j) 256) (hn : n ≤ 50) (Gp : GB n pf) (hpf : KP l g 43 (E + 5) n o m0 pf) : ∀ j, j ≤ 5 → KL l g 43 (E + 6 + j) n (5 - j) o m0 (leF t n pf j)
  | 0, _ => level5_43 (E + 5) n o m0 pf hpf
  | j + 1, hj => by
    have ih := KLof_43 E n o m0 t pf ht hnb hn Gp hpf j (by omega)
    have h := level_43 (l := l) (g := g) (E + j) n j o m0 t pf ht hnb hn (by omega) Gp (by rw [show E + j + 6 = E + 6 + j by omega]; exact ih)
    rw [show E + 6 + (j + 1) = E + j + 7 by omega, show 5 - (j + 1) = 4 - j by omega]
    exact h
theorem KPof_43 (v n : Nat) (m0 : Mem) (t : Nat → Int32) (hSO : SO g 1 v) (ht : ∀ j, j < 50 → m0 37 j = t j) (hnb : ∀ j, j < 50 → nb (t j) 256) (hn : n ≤ 50) : ∀ r, r ≤ 5 → KP l g 43 (7 * r + 7) n (5 - r) m0 (paF t n 1 r)
  | 0, _ => part_43 0 0 0 n 5 v m0 t false id id hSO ht hnb hn (Nat.le_refl _) ⟨fun h => (by cases h), fun h => absurd h (by decide)⟩ rfl rfl (fun h => (by cases h)) (fun h => (by cases h)) (fun h => (by cases h)) (fun h => (by cases h))
  | r + 1, hr => by
    have ih := KPof_43 v n m0 t hSO ht hnb hn r (by omega)
    have gp : GB n (paF t n 1 r) := GB_pa (by decide) r
    have kl := KLof_43 (l := l) (g := g) (7 * r + 2) n (5 - r) m0 t (paF t n 1 r) ht hnb hn gp ih 5 (Nat.le_refl _)
    have e5 : 5 - (r + 1) + 1 = 5 - r := by omega
    exact part_43 (7 * r + 7) (7 * r + 7) (7 * r + 2 + 6 + 5) n (5 - (r + 1)) v m0 t true (paF t n 1 r) (leF t n (paF t n 1 r) 5) hSO ht hnb hn (by omega) ⟨fun _ => by omega, fun _ => rfl⟩ (blt_ok (by omega)) (blt_ok (by omega)) (fun _ => gp) (fun _ => GB_le gp 5 (Nat.le_refl _)) (fun _ => by rw [e5]; exact ih) (fun _ => by rw [e5]; exact kl)
theorem KLall_43 (v n : Nat) (m0 : Mem) (t : Nat → Int32) (hSO : SO g 1 v) (ht : ∀ j, j < 50 → m0 37 j = t j) (hnb : ∀ j, j < 50 → nb (t j) 256) (hn : n ≤ 50) : KL l g 43 48 n 0 0 m0 (leF t n (paF t n 1 5) 5) := KLof_43 37 n 0 m0 t _ ht hnb hn (GB_pa (by decide) 5) (KPof_43 v n m0 t hSO ht hnb hn 5 (Nat.le_refl _)) 5 (Nat.le_refl _)
abbrev rm0_43 (m : Mem) : Mem := up2 (up2 (up2 m 43 7 0) 43 6 0) 43 8 0
theorem CR0_43 (m : Mem) : CR 43 m (rm0_43 m) (0, [], true) := ⟨(up2_k (by decide)).trans ((up2_k (by decide)).trans up2_s), up2_s, ⟨0, by decide, (up2_k (by decide)).trans up2_s, fun _ => ⟨rfl, fun j hj => absurd hj (Nat.not_lt_zero j)⟩⟩, fun b b1 b2 => (up2_r b1).trans ((up2_r b1).trans (up2_r b1)), fun k hk => (up2_k (by omega)).trans ((up2_k (by omega)).trans (up2_k (by omega)))⟩
set_option maxRecDepth 100000 in
theorem c_readG_43 (v n : Nat) (m : Mem) (t : Nat → Int32) (hSO : SO g 1 v) (ht : ∀ j, j < 50 → m 37 j = t j) (hnb : ∀ j, j < 50 → nb (t j) 256) (hn : n ≤ 50) (hg : gdR t n 1) : JM l g 49 mX6_read [rf g 43, rf g 37, .int (nI n)] m (RS (some (.int (-1))) (RdG 43 (rdF t n 1) m)) := by
  refine JM_of (ls := [some (rf g 43), some (rf g 37), some (.int (nI n)), none]) pn_X6 rfl rfl ?_
  have eb := rd_b t n 1 (by decide)
  have ein : imin (nI n) (nI 50) = nI n := by rw [imin_N (by omega) (by decide), Nat.min_eq_left hn]
  refine j_aload0 1 dX6_read_0 rfl ?_
  refine j_iconst 2 (v := 0) dX6_read_1 rfl rfl ?_
  refine j_putI 5 dX6_read_2 rfl fp_X6_62 rfl rfl ?_
  refine j_aload0 6 dX6_read_5 rfl ?_
  refine j_iconst 7 (v := 0) dX6_read_6 rfl rfl ?_
  refine j_putI 10 dX6_read_7 rfl fp_X6_65 rfl rfl ?_
  refine j_aload0 11 dX6_read_10 rfl ?_
  refine j_iconst 12 (v := 0) dX6_read_11 rfl rfl ?_
  refine j_putZ 15 (by first | exact Or.inl rfl | exact Or.inr rfl) dX6_read_12 rfl fp_X6_68 rfl rfl ?_
  refine j_iload2 16 dX6_read_15 rfl ?_
  refine j_aload1 17 dX6_read_16 rfl ?_
  refine j_alen 18 dX6_read_17 rfl rfl ?_
  refine j_top (z := nI 50) rfl ?_
  refine j_mmin 21 dX6_read_18 rfl rfl cl_X6_36 rfl ?_
  refine j_top ein ?_
  refine j_istore3 22 dX6_read_21 rfl rfl rfl ?_
  refine j_aload0 23 dX6_read_22 rfl ?_
  refine j_aload1 24 dX6_read_23 rfl ?_
  refine j_iload3 25 dX6_read_24 rfl ?_
  refine j_iconst 26 (v := nI 0) dX6_read_25 rfl rfl ?_
  refine j_iconst 27 (v := nI 0) dX6_read_26 rfl rfl ?_
  refine j_vi4w 30 dX6_read_27 rfl rfl cl_X6_72 rfl rfl (KLall_43 v n m t hSO ht hnb hn (rm0_43 m) (0, [], true) (CR0_43 m) rfl (Nat.zero_le _) (Nat.zero_le _)) (fun m27 q27 => ?_)
  obtain ⟨e7, e8, ⟨k, hk, e6, hc⟩, ho, hs⟩ := q27
  have e7 : m27 43 7 = nI (rdF t n 1).1 := e7
  have e8 : m27 43 8 = 0 := e8.trans (if_pos hg.1)
  obtain ⟨c1, c2⟩ := hc hg.1
  have c1 : k = (rdF t n 1).2.1.length := c1
  subst c1
  refine j_aload0 31 dX6_read_30 rfl ?_
  refine j_getI 34 dX6_read_31 rfl fl_X6_68 rfl rfl ?_
  refine j_top e8 ?_
  refine j_if_ne 45 37 dX6_read_34 rfl rfl (fun h34 => absurd h34 (fun q => q rfl)) (fun h34 => ?_)
  refine j_aload0 38 dX6_read_37 rfl ?_
  refine j_getI 41 dX6_read_38 rfl fl_X6_62 rfl rfl ?_
  refine j_top e7 ?_
  refine j_iload3 42 dX6_read_41 rfl ?_
  refine j_cmp_ge 50 45 dX6_read_42 rfl rfl (fun h42 => ?_) (fun h42 => absurd (nI_le (Nat.not_lt.mp hg.2) (by omega)) h42)
  refine j_aload0 51 dX6_read_50 rfl ?_
  refine j_aload0 52 dX6_read_51 rfl ?_
  refine j_getR 55 dX6_read_52 rfl fl_X6_18 rfl rfl ?_
  refine j_aload0 56 dX6_read_55 rfl ?_
  refine j_getI 59 dX6_read_56 rfl fl_X6_65 rfl rfl ?_
  refine j_top e6 ?_
  refine j_vi2w 62 dX6_read_59 rfl rfl cl_X6_32 rfl rfl (c_ltake_43_46 m27 _ hk) (fun m59 q59 => ?_)
  refine j_iconst 63 (v := -1) dX6_read_62 rfl rfl ?_
  refine j_iret dX6_read_63 rfl ?_
  exact ⟨rfl, q59.1, fun j h1 h2 => (q59.2.1 j h2).trans (hs j h1), fun j hj => (q59.2.2.1 j hj).trans (c2 j hj), fun b b1 b2 b3 => (q59.2.2.2 b (by simp; omega)).trans (ho b b1 b3)⟩
set_option maxRecDepth 100000 in
theorem c_readB_43 (v n : Nat) (m : Mem) (t : Nat → Int32) (hSO : SO g 1 v) (ht : ∀ j, j < 50 → m 37 j = t j) (hnb : ∀ j, j < 50 → nb (t j) 256) (hn : n ≤ 50) (hg : ¬ gdR t n 1) : JM l g 49 mX6_read [rf g 43, rf g 37, .int (nI n)] m (RS (some (.int (nI (rdF t n 1).1))) (RdB 43 m)) := by
  refine JM_of (ls := [some (rf g 43), some (rf g 37), some (.int (nI n)), none]) pn_X6 rfl rfl ?_
  have eb := rd_b t n 1 (by decide)
  have ein : imin (nI n) (nI 50) = nI n := by rw [imin_N (by omega) (by decide), Nat.min_eq_left hn]
  refine j_aload0 1 dX6_read_0 rfl ?_
  refine j_iconst 2 (v := 0) dX6_read_1 rfl rfl ?_
  refine j_putI 5 dX6_read_2 rfl fp_X6_62 rfl rfl ?_
  refine j_aload0 6 dX6_read_5 rfl ?_
  refine j_iconst 7 (v := 0) dX6_read_6 rfl rfl ?_
  refine j_putI 10 dX6_read_7 rfl fp_X6_65 rfl rfl ?_
  refine j_aload0 11 dX6_read_10 rfl ?_
  refine j_iconst 12 (v := 0) dX6_read_11 rfl rfl ?_
  refine j_putZ 15 (by first | exact Or.inl rfl | exact Or.inr rfl) dX6_read_12 rfl fp_X6_68 rfl rfl ?_
  refine j_iload2 16 dX6_read_15 rfl ?_
  refine j_aload1 17 dX6_read_16 rfl ?_
  refine j_alen 18 dX6_read_17 rfl rfl ?_
  refine j_top (z := nI 50) rfl ?_
  refine j_mmin 21 dX6_read_18 rfl rfl cl_X6_36 rfl ?_
  refine j_top ein ?_
  refine j_istore3 22 dX6_read_21 rfl rfl rfl ?_
  refine j_aload0 23 dX6_read_22 rfl ?_
  refine j_aload1 24 dX6_read_23 rfl ?_
  refine j_iload3 25 dX6_read_24 rfl ?_
  refine j_iconst 26 (v := nI 0) dX6_read_25 rfl rfl ?_
  refine j_iconst 27 (v := nI 0) dX6_read_26 rfl rfl ?_
  refine j_vi4w 30 dX6_read_27 rfl rfl cl_X6_72 rfl rfl (KLall_43 v n m t hSO ht hnb hn (rm0_43 m) (0, [], true) (CR0_43 m) rfl (Nat.zero_le _) (Nat.zero_le _)) (fun m27 q27 => ?_)
  obtain ⟨e7, e8, -, ho, hs⟩ := q27
  have e7 : m27 43 7 = nI (rdF t n 1).1 := e7
  have e8 : m27 43 8 = if (rdF t n 1).2.2 = true then 0 else 1 := e8
  refine j_aload0 31 dX6_read_30 rfl ?_
  refine j_getI 34 dX6_read_31 rfl fl_X6_68 rfl rfl ?_
  refine j_if_ne 45 37 dX6_read_34 rfl rfl (fun h34 => ?_) (fun h34 => ?_)
  · refine j_aload0 46 dX6_read_45 rfl ?_
    refine j_getI 49 dX6_read_46 rfl fl_X6_62 rfl rfl ?_
    refine j_top e7 ?_
    refine j_iret dX6_read_49 rfl ?_
    exact ⟨rfl, hs, ho⟩
  · refine j_aload0 38 dX6_read_37 rfl ?_
    refine j_getI 41 dX6_read_38 rfl fl_X6_62 rfl rfl ?_
    refine j_top e7 ?_
    refine j_iload3 42 dX6_read_41 rfl ?_
    refine j_cmp_ge 50 45 dX6_read_42 rfl rfl (fun h42 => ?_) (fun h42 => ?_)
    · exact absurd (show gdR t n 1 from And.intro (Classical.byContradiction (fun z => by rw [e8, if_neg z] at h34; exact absurd h34 (by decide))) (fun z => nI_ge z (by omega) h42)) hg
    · refine j_aload0 46 dX6_read_45 rfl ?_
      refine j_getI 49 dX6_read_46 rfl fl_X6_62 rfl rfl ?_
      refine j_top e7 ?_
      refine j_iret dX6_read_49 rfl ?_
      exact ⟨rfl, hs, ho⟩
set_option maxRecDepth 100000 in
theorem o_textG_1 (v n : Nat) (m : Mem) (t : Nat → Int32) (hSO : SO g 1 v) (ht : ∀ j, j < 50 → m 37 j = t j) (hnb : ∀ j, j < 50 → nb (t j) 256) (hn : n ≤ 50) (e4 : m 36 4 = nI n) (hg : gdR t n 1) : JM l g 50 mX11_text [rf g 0, .int 1] m (RS (some (.int 1)) (fun m' => ∃ m1, RdG 43 (rdF t n 1) m m1 ∧ m' = up2 m1 36 4 0)) := by
  refine JM_of (ls := [some (rf g 0), some (.int 1), none, none]) pn_X11 rfl rfl ?_
  refine j_iload1 1 dX11_text_0 rfl ?_
  refine j_iconst 2 (v := 0) dX11_text_1 rfl rfl ?_
  refine j_iconst 3 (v := 1) dX11_text_2 rfl rfl ?_
  refine j_st3f 6 dX11_text_3 rfl rfl cl_X11_86 rfl (c_within m _ 0 1) ?_
  refine j_if_ne_bz 16 9 dX11_text_6 rfl rfl (fun h6 => ?_) (fun h6 => absurd (by decide) h6)
  refine j_iload1 17 dX11_text_16 rfl ?_
  refine j_if_ne 30 20 dX11_text_17 rfl rfl (fun h17 => ?_) (fun h17 => absurd h17 (by decide))
  refine j_aload0 31 dX11_text_30 rfl ?_
  refine j_getR 34 dX11_text_31 rfl fl_X11_48 rfl rfl ?_
  refine j_getR 37 dX11_text_34 rfl fl_X11_187 rfl rfl ?_
  refine j_astore2 38 dX11_text_37 rfl rfl rfl ?_
  refine j_aload2 39 dX11_text_38 rfl ?_
  refine j_aload0 40 dX11_text_39 rfl ?_
  refine j_getR 43 dX11_text_40 rfl fl_X11_48 rfl rfl ?_
  refine j_getR 46 dX11_text_43 rfl fl_X11_190 rfl rfl ?_
  refine j_aload0 47 dX11_text_46 rfl ?_
  refine j_getR 50 dX11_text_47 rfl fl_X11_48 rfl rfl ?_
  refine j_getI 53 dX11_text_50 rfl fl_X11_174 rfl rfl ?_
  refine j_top e4 ?_
  refine j_vi2s 56 dX11_text_53 rfl rfl cl_X11_193 rfl rfl (c_readG_43 v n m t hSO ht hnb hn hg) (fun m53 q53 => ?_)
  refine j_istore3 57 dX11_text_56 rfl rfl rfl ?_
  refine j_aload0 58 dX11_text_57 rfl ?_
  refine j_getR 61 dX11_text_58 rfl fl_X11_48 rfl rfl ?_
  refine j_iconst 62 (v := 0) dX11_text_61 rfl rfl ?_
  refine j_putI 65 dX11_text_62 rfl fp_X11_174 rfl rfl ?_
  refine j_iload3 66 dX11_text_65 rfl ?_
  refine j_if_ge 73 69 dX11_text_66 rfl rfl (fun h66 => absurd h66 (by decide)) (fun h66 => ?_)
  refine j_iconst 70 (v := 1) dX11_text_69 rfl rfl ?_
  refine j_goto 77 dX11_text_70 rfl ?_
  refine j_iret dX11_text_77 rfl ?_
  exact ⟨rfl, m53, q53, rfl⟩
set_option maxRecDepth 100000 in
theorem o_textB_1 (v n : Nat) (m : Mem) (t : Nat → Int32) (hSO : SO g 1 v) (ht : ∀ j, j < 50 → m 37 j = t j) (hnb : ∀ j, j < 50 → nb (t j) 256) (hn : n ≤ 50) (e4 : m 36 4 = nI n) (hg : ¬ gdR t n 1) : JM l g 50 mX11_text [rf g 0, .int 1] m (RS (some (.int (-10 - nI (rdF t n 1).1))) (fun m' => ∃ m1, RdB 43 m m1 ∧ m' = up2 m1 36 4 0)) := by
  refine JM_of (ls := [some (rf g 0), some (.int 1), none, none]) pn_X11 rfl rfl ?_
  have eb := rd_b t n 1 (by decide)
  refine j_iload1 1 dX11_text_0 rfl ?_
  refine j_iconst 2 (v := 0) dX11_text_1 rfl rfl ?_
  refine j_iconst 3 (v := 1) dX11_text_2 rfl rfl ?_
  refine j_st3f 6 dX11_text_3 rfl rfl cl_X11_86 rfl (c_within m _ 0 1) ?_
  refine j_if_ne_bz 16 9 dX11_text_6 rfl rfl (fun h6 => ?_) (fun h6 => absurd (by decide) h6)
  refine j_iload1 17 dX11_text_16 rfl ?_
  refine j_if_ne 30 20 dX11_text_17 rfl rfl (fun h17 => ?_) (fun h17 => absurd h17 (by decide))
  refine j_aload0 31 dX11_text_30 rfl ?_
  refine j_getR 34 dX11_text_31 rfl fl_X11_48 rfl rfl ?_
  refine j_getR 37 dX11_text_34 rfl fl_X11_187 rfl rfl ?_
  refine j_astore2 38 dX11_text_37 rfl rfl rfl ?_
  refine j_aload2 39 dX11_text_38 rfl ?_
  refine j_aload0 40 dX11_text_39 rfl ?_
  refine j_getR 43 dX11_text_40 rfl fl_X11_48 rfl rfl ?_
  refine j_getR 46 dX11_text_43 rfl fl_X11_190 rfl rfl ?_
  refine j_aload0 47 dX11_text_46 rfl ?_
  refine j_getR 50 dX11_text_47 rfl fl_X11_48 rfl rfl ?_
  refine j_getI 53 dX11_text_50 rfl fl_X11_174 rfl rfl ?_
  refine j_top e4 ?_
  refine j_vi2s 56 dX11_text_53 rfl rfl cl_X11_193 rfl rfl (c_readB_43 v n m t hSO ht hnb hn hg) (fun m53 q53 => ?_)
  refine j_istore3 57 dX11_text_56 rfl rfl rfl ?_
  refine j_aload0 58 dX11_text_57 rfl ?_
  refine j_getR 61 dX11_text_58 rfl fl_X11_48 rfl rfl ?_
  refine j_iconst 62 (v := 0) dX11_text_61 rfl rfl ?_
  refine j_putI 65 dX11_text_62 rfl fp_X11_174 rfl rfl ?_
  refine j_iload3 66 dX11_text_65 rfl ?_
  refine j_if_ge 73 69 dX11_text_66 rfl rfl (fun h66 => ?_) (fun h66 => absurd (nI_pos' (by omega)) h66)
  refine j_bipush 75 (v := -10) dX11_text_73 rfl rfl ?_
  refine j_iload3 76 dX11_text_75 rfl ?_
  refine j_isub 77 dX11_text_76 rfl ?_
  refine j_iret dX11_text_77 rfl ?_
  exact ⟨rfl, m53, q53, rfl⟩
end O35
