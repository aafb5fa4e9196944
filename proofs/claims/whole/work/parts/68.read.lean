/-! the class reads a TEXT -/
def CR (L : Nat) (m0 m : Mem) (s : PT) : Prop := m L 7 = nI s.1 ∧ m L 8 = (if s.2.2 = true then 0 else 1) ∧ (∃ k, k ≤ 50 ∧ m L 6 = nI k ∧ (s.2.2 = true → k = s.2.1.length ∧ ∀ j, j < k → m (L + 3) j = encT (cdL s.2.1 j))) ∧ (∀ b, b ≠ L → b ≠ L + 3 → m b = m0 b) ∧ ∀ k, k < 6 → m L k = m0 L k
theorem CR_av {L : Nat} {m0 m : Mem} {s : PT} (h : CR L m0 m s) : CR L m0 (up2 m L 7 (nI (s.1 + 1))) (avF s) := by
  obtain ⟨e7, e8, ⟨k, hk, e6, hc⟩, ho, hs⟩ := h
  exact ⟨up2_s, by rw [up2_k (by decide)]; exact e8, ⟨k, hk, by rw [up2_k (by decide)]; exact e6, fun ok => ⟨(hc ok).1, fun j hj => by rw [up2_a (by omega)]; exact (hc ok).2 j hj⟩⟩, fun b b1 b2 => by rw [up2_r b1]; exact ho b b1 b2, fun j hj => by rw [up2_k (by omega)]; exact hs j hj⟩
theorem CR_fl {L : Nat} {m0 m : Mem} {s : PT} (h : CR L m0 m s) : CR L m0 (up2 m L 8 1) (flF s) := by
  obtain ⟨e7, e8, ⟨k, hk, e6, hc⟩, ho, hs⟩ := h
  exact ⟨by rw [up2_k (by decide)]; exact e7, up2_s, ⟨k, hk, by rw [up2_k (by decide)]; exact e6, fun ok => by cases ok⟩, fun b b1 b2 => by rw [up2_r b1]; exact ho b b1 b2, fun j hj => by rw [up2_k (by omega)]; exact hs j hj⟩
theorem CR_wr {L : Nat} {m0 m : Mem} {s : PT} {x : Int32} {k : Nat} (h : CR L m0 m s) (hk : k < 50) (e6 : m L 6 = nI k) : CR L m0 (up2 (up2 m (L + 3) k (encT x)) L 6 (nI (k + 1))) (wrF x s) := by
  obtain ⟨e7, e8, ⟨k', hk', e6', hc⟩, ho, hs⟩ := h
  have ek : k' = k := (nI_eq (by omega) (by omega)).mp (e6'.symm.trans e6)
  subst ek
  refine ⟨by rw [up2_k (by decide), up2_a (by omega), wr_1]; exact e7, by rw [up2_k (by decide), up2_a (by omega), wr_ok]; exact e8, ⟨k' + 1, by omega, up2_s, fun ok => ?_⟩, fun b b1 b2 => by rw [up2_r b1, up2_r b2]; exact ho b b1 b2, fun j hj => by rw [up2_k (by omega), up2_a (by omega)]; exact hs j hj⟩
  rw [wr_ok] at ok
  obtain ⟨c1, c2⟩ := hc ok
  rw [wr_t ok]
  refine ⟨by simp [c1], fun j hj => ?_⟩
  rw [up2_a (by omega)]
  by_cases q : j = k'
  · subst q
    rw [up2_s, c1, cd_last]
  · rw [up2_k q, cd_app (by omega)]
    exact c2 j (by omega)
theorem CR_no {L : Nat} {m0 m : Mem} {s : PT} {x : Int32} (h : CR L m0 m s) (no : ¬ s.2.2 = true) : CR L m0 m (wrF x s) := by unfold wrF; rw [if_neg no]; exact h
theorem enc_n {a : Nat} (h : a < 10000) : nI (256 + a) = encT (nI a) := by
  unfold encT
  rw [if_pos (show nI a < 10000 from nI_lt (a := a) (b := 10000) h (by decide)), show nI a + 256 = nI (a + 256) from nI_add a 256, Nat.add_comm]
theorem enc_m {k : Nat} (h : k < 3) : nI k = encT (10000 + nI k) := by rcases (show k = 0 ∨ k = 1 ∨ k = 2 by omega) with rfl | rfl | rfl <;> decide
theorem enc_s {k : Nat} (h : k < 256) : nI k = encT (20000 + nI k) := by
  rw [show (20000 : Int32) + nI k = nI (20000 + k) from nI_add 20000 k]
  unfold encT
  rw [if_neg (show ¬ nI (20000 + k) < 10000 from nI_nlt (a := 20000 + k) (b := 10000) (by omega) (by omega)), if_neg (show ¬ nI (20000 + k) < 20000 from nI_nlt (a := 20000 + k) (b := 20000) (by omega) (by omega)), show nI (20000 + k) - 20000 = nI (20000 + k - 20000) from pk_sub (b := 20000) (by omega), Nat.add_sub_cancel_left]
theorem blt_ok {a b : Nat} (h : a < b) : Nat.blt a b = true := Nat.ble_eq_true_of_le h
theorem sg_nb {t : Nat → Int32} {n : Nat} (ht : ∀ j, j < 50 → nb (t j) 256) (hn : n ≤ 50) (p : Nat) : sgF t n p = -1 ∨ ∃ b, b < 256 ∧ sgF t n p = nI b := by
  unfold sgF
  by_cases q : p < n
  · rw [if_pos q]; obtain ⟨b, b1, b2⟩ := ht p (by omega); exact Or.inr ⟨b, b1, b2⟩
  · rw [if_neg q]; exact Or.inl rfl
theorem i2c_n {b : Nat} (h : b < 256) : ((nI b).toUInt32 % 65536).toInt32 = nI b := by rw [pk_char, pk_tn (by omega), Nat.mod_eq_of_lt (by omega)]
section O33
variable {l : Launch} {g : Gv}
set_option maxRecDepth 100000 in
theorem c_signAt (m : Mem) (t : Nat → Int32) (n p : Nat) (ht : ∀ j, j < 50 → m 37 j = t j) (hn : n ≤ 50) (hp : p < 2 ^ 31) : JM l g 0 mX6_signAt [rf g 37, .int (nI n), .int (nI p)] m (RF (some (.int (sgF t n p))) m) := by
  refine JM_of (ls := [some (rf g 37), some (.int (nI n)), some (.int (nI p))]) pn_X6 rfl rfl ?_
  refine j_iload2 1 dX6_signAt_0 rfl ?_
  refine j_if_lt 15 4 dX6_signAt_1 rfl rfl (fun h1 => absurd h1 (nI_pos hp)) (fun h1 => ?_)
  refine j_iload2 5 dX6_signAt_4 rfl ?_
  refine j_iload1 6 dX6_signAt_5 rfl ?_
  refine j_cmp_ge 15 9 dX6_signAt_6 rfl rfl (fun h6 => ?_) (fun h6 => ?_)
  · refine j_iconst 16 (v := -1) dX6_signAt_15 rfl rfl ?_
    refine j_iret dX6_signAt_16 rfl ?_
    first | exact rf_e (by unfold sgF; rw [if_pos hlt, ht p (by omega)]) | exact rf_e (by unfold sgF; rw [if_neg (fun q => absurd h6 (nI_ge q (by omega)))])
  · have hlt : p < n := Nat.not_le.mp (fun q => h6 (nI_le q hp))
    refine j_aload0 10 dX6_signAt_9 rfl ?_
    refine j_iload2 11 dX6_signAt_10 rfl ?_
    refine j_iald 12 p rfl (show p < 50 by omega) dX6_signAt_11 rfl rfl ?_
    refine j_goto 16 dX6_signAt_12 rfl ?_
    refine j_iret dX6_signAt_16 rfl ?_
    first | exact rf_e (by unfold sgF; rw [if_pos hlt, ht p (by omega)]) | exact rf_e (by unfold sgF; rw [if_neg (fun q => absurd h6 (nI_ge q (by omega)))])
set_option maxRecDepth 100000 in
theorem c_isDigit (m : Mem) (c : Int32) : JM l g 0 mX6_isDigit [.int c] m (RF (some (.int (bz (dgP c)))) m) := by
  refine JM_of (ls := [some (.int c)]) pn_X6 rfl rfl ?_
  refine j_iload0 1 dX6_isDigit_0 rfl ?_
  refine j_bipush 3 (v := 48) dX6_isDigit_1 rfl rfl ?_
  refine j_cmp_lt 16 6 dX6_isDigit_3 rfl rfl (fun h3 => ?_) (fun h3 => ?_)
  · refine j_iconst 17 (v := 0) dX6_isDigit_16 rfl rfl ?_
    refine j_zret (by first | exact bz_01 | exact Or.inl rfl | exact Or.inr rfl | assumption) dX6_isDigit_17 rfl ?_
    first | exact rf_t ⟨Int32.not_lt.mp h3, Int32.not_lt.mp h9⟩ | exact rf_f (fun q => absurd q.2 (Int32.not_le.mpr h9)) | exact rf_f (fun q => absurd q.1 (Int32.not_le.mpr h3))
  · refine j_iload0 7 dX6_isDigit_6 rfl ?_
    refine j_bipush 9 (v := 57) dX6_isDigit_7 rfl rfl ?_
    refine j_cmp_gt 16 12 dX6_isDigit_9 rfl rfl (fun h9 => ?_) (fun h9 => ?_)
    · refine j_iconst 17 (v := 0) dX6_isDigit_16 rfl rfl ?_
      refine j_zret (by first | exact bz_01 | exact Or.inl rfl | exact Or.inr rfl | assumption) dX6_isDigit_17 rfl ?_
      first | exact rf_t ⟨Int32.not_lt.mp h3, Int32.not_lt.mp h9⟩ | exact rf_f (fun q => absurd q.2 (Int32.not_le.mpr h9)) | exact rf_f (fun q => absurd q.1 (Int32.not_le.mpr h3))
    · refine j_iconst 13 (v := 1) dX6_isDigit_12 rfl rfl ?_
      refine j_goto 17 dX6_isDigit_13 rfl ?_
      refine j_zret (by first | exact bz_01 | exact Or.inl rfl | exact Or.inr rfl | assumption) dX6_isDigit_17 rfl ?_
      first | exact rf_t ⟨Int32.not_lt.mp h3, Int32.not_lt.mp h9⟩ | exact rf_f (fun q => absurd q.2 (Int32.not_le.mpr h9)) | exact rf_f (fun q => absurd q.1 (Int32.not_le.mpr h3))
set_option maxRecDepth 100000 in
theorem c_levelOf (m : Mem) (c : Int32) : JM l g 0 mX6_levelOf [.int c] m (RF (some (.int (lvO c))) m) := by
  refine JM_of (ls := [some (.int c)]) pn_X6 rfl rfl ?_
  refine j_iload0 1 dX6_levelOf_0 rfl ?_
  by_cases h1_37 : c = 37
  · refine j_lookup 100 dX6_levelOf_1 rfl (by rw [h1_37] <;> rfl) rfl ?_
    refine j_iconst 101 (v := 4) dX6_levelOf_100 rfl rfl ?_
    refine j_iret dX6_levelOf_101 rfl ?_
    exact rf_e (by simp [lvO, *])
  by_cases h1_38 : c = 38
  · refine j_lookup 94 dX6_levelOf_1 rfl (by rw [h1_38] <;> rfl) rfl ?_
    refine j_iconst 95 (v := 1) dX6_levelOf_94 rfl rfl ?_
    refine j_iret dX6_levelOf_95 rfl ?_
    exact rf_e (by simp [lvO, *])
  by_cases h1_42 : c = 42
  · refine j_lookup 100 dX6_levelOf_1 rfl (by rw [h1_42] <;> rfl) rfl ?_
    refine j_iconst 101 (v := 4) dX6_levelOf_100 rfl rfl ?_
    refine j_iret dX6_levelOf_101 rfl ?_
    exact rf_e (by simp [lvO, *])
  by_cases h1_43 : c = 43
  · refine j_lookup 98 dX6_levelOf_1 rfl (by rw [h1_43] <;> rfl) rfl ?_
    refine j_iconst 99 (v := 3) dX6_levelOf_98 rfl rfl ?_
    refine j_iret dX6_levelOf_99 rfl ?_
    exact rf_e (by simp [lvO, *])
  by_cases h1_45 : c = 45
  · refine j_lookup 98 dX6_levelOf_1 rfl (by rw [h1_45] <;> rfl) rfl ?_
    refine j_iconst 99 (v := 3) dX6_levelOf_98 rfl rfl ?_
    refine j_iret dX6_levelOf_99 rfl ?_
    exact rf_e (by simp [lvO, *])
  by_cases h1_47 : c = 47
  · refine j_lookup 100 dX6_levelOf_1 rfl (by rw [h1_47] <;> rfl) rfl ?_
    refine j_iconst 101 (v := 4) dX6_levelOf_100 rfl rfl ?_
    refine j_iret dX6_levelOf_101 rfl ?_
    exact rf_e (by simp [lvO, *])
  by_cases h1_60 : c = 60
  · refine j_lookup 96 dX6_levelOf_1 rfl (by rw [h1_60] <;> rfl) rfl ?_
    refine j_iconst 97 (v := 2) dX6_levelOf_96 rfl rfl ?_
    refine j_iret dX6_levelOf_97 rfl ?_
    exact rf_e (by simp [lvO, *])
  by_cases h1_61 : c = 61
  · refine j_lookup 96 dX6_levelOf_1 rfl (by rw [h1_61] <;> rfl) rfl ?_
    refine j_iconst 97 (v := 2) dX6_levelOf_96 rfl rfl ?_
    refine j_iret dX6_levelOf_97 rfl ?_
    exact rf_e (by simp [lvO, *])
  by_cases h1_62 : c = 62
  · refine j_lookup 96 dX6_levelOf_1 rfl (by rw [h1_62] <;> rfl) rfl ?_
    refine j_iconst 97 (v := 2) dX6_levelOf_96 rfl rfl ?_
    refine j_iret dX6_levelOf_97 rfl ?_
    exact rf_e (by simp [lvO, *])
  by_cases h1_124 : c = 124
  · refine j_lookup 92 dX6_levelOf_1 rfl (by rw [h1_124] <;> rfl) rfl ?_
    refine j_iconst 93 (v := 0) dX6_levelOf_92 rfl rfl ?_
    refine j_iret dX6_levelOf_93 rfl ?_
    exact rf_e (by simp [lvO, *])
  refine j_lookup (off := 101) 102 dX6_levelOf_1 rfl ((lv_osw (a := 37) h1_37 rfl).trans ((lv_osw (a := 38) h1_38 rfl).trans ((lv_osw (a := 42) h1_42 rfl).trans ((lv_osw (a := 43) h1_43 rfl).trans ((lv_osw (a := 45) h1_45 rfl).trans ((lv_osw (a := 47) h1_47 rfl).trans ((lv_osw (a := 60) h1_60 rfl).trans ((lv_osw (a := 61) h1_61 rfl).trans ((lv_osw (a := 62) h1_62 rfl).trans ((lv_osw (a := 124) h1_124 rfl).trans rfl)))))))))) rfl ?_
  refine j_iconst 103 (v := -1) dX6_levelOf_102 rfl rfl ?_
  refine j_iret dX6_levelOf_103 rfl ?_
  exact rf_e (by simp [lvO, *])
set_option maxRecDepth 100000 in
theorem c_write_39 (m m0 : Mem) (s : PT) (x : Int32) (h : CR 39 m0 m s) (hb : s.2.2 = true → s.2.1.length < 50) : JM l g 0 mX6_write [rf g 39, .int (encT x)] m (RS none (fun m' => CR 39 m0 m' (wrF x s))) := by
  refine JM_of (ls := [some (rf g 39), some (.int (encT x))]) pn_X6 rfl rfl ?_
  obtain ⟨e7, e8, ⟨k, hk, e6, hc⟩, ho, hs⟩ := id h
  refine j_aload0 1 dX6_write_0 rfl ?_
  refine j_getI 4 dX6_write_1 rfl fl_X6_65 rfl rfl ?_
  refine j_top e6 ?_
  refine j_bipush 6 (v := 50) dX6_write_4 rfl rfl ?_
  refine j_cmp_ge 29 9 dX6_write_6 rfl rfl (fun h6 => ?_) (fun h6 => ?_)
  · refine j_vret dX6_write_29 rfl ?_
    first | exact ⟨rfl, CR_wr h hlt e6⟩ | exact ⟨rfl, CR_no h (fun ok => by have a := hb ok; have b := (hc ok).1; exact nI_ge (a := k) (b := 50) (by omega) (by decide) h6)⟩
  · have hlt : k < 50 := Nat.not_le.mp (fun q => h6 (nI_le (a := 50) (b := k) q (by omega)))
    refine j_aload0 10 dX6_write_9 rfl ?_
    refine j_getR 13 dX6_write_10 rfl fl_X6_18 rfl rfl ?_
    refine j_aload0 14 dX6_write_13 rfl ?_
    refine j_getI 17 dX6_write_14 rfl fl_X6_65 rfl rfl ?_
    refine j_top e6 ?_
    refine j_iload1 18 dX6_write_17 rfl ?_
    refine j_iast 19 k rfl (show k < 50 from hlt) dX6_write_18 rfl rfl ?_
    refine j_aload0 20 dX6_write_19 rfl ?_
    refine j_dup 21 dX6_write_20 rfl rfl ?_
    refine j_getI 24 dX6_write_21 rfl fl_X6_65 rfl rfl ?_
    refine j_top ((up2_a (by decide)).trans e6) ?_
    refine j_iconst 25 (v := 1) dX6_write_24 rfl rfl ?_
    refine j_iadd 26 dX6_write_25 rfl ?_
    refine j_top (nI_1 k) ?_
    refine j_putI 29 dX6_write_26 rfl fp_X6_65 rfl rfl ?_
    refine j_vret dX6_write_29 rfl ?_
    first | exact ⟨rfl, CR_wr h hlt e6⟩ | exact ⟨rfl, CR_no h (fun ok => by have a := hb ok; have b := (hc ok).1; exact nI_ge (a := k) (b := 50) (by omega) (by decide) h6)⟩
set_option maxRecDepth 100000 in
theorem c_closing_39 (m m0 : Mem) (s : PT) (t : Nat → Int32) (n : Nat) (ht : ∀ j, j < 50 → m0 37 j = t j) (hn : n ≤ 50) (hp : s.1 ≤ n) (h : CR 39 m0 m s) : JM l g 1 mX6_readClosing [rf g 39, rf g 37, .int (nI n)] m (RS none (fun m' => CR 39 m0 m' (clF t n s))) := by
  refine JM_of (ls := [some (rf g 39), some (rf g 37), some (.int (nI n))]) pn_X6 rfl rfl ?_
  obtain ⟨e7, e8, -, ho, -⟩ := id h
  have ht1 : ∀ j, j < 50 → m 37 j = t j := fun j hj => by rw [ho 37 (by decide) (by decide)]; exact ht j hj
  by_cases ok : s.2.2 = true
  · rw [if_pos ok] at e8
    refine j_aload0 1 dX6_readClosing_0 rfl ?_
    refine j_getI 4 dX6_readClosing_1 rfl fl_X6_68 rfl rfl ?_
    refine j_top e8 ?_
    refine j_if_ne 34 7 dX6_readClosing_4 rfl rfl (fun h4 => absurd h4 (fun q => q rfl)) (fun h4 => ?_)
    refine j_aload1 8 dX6_readClosing_7 rfl ?_
    refine j_iload2 9 dX6_readClosing_8 rfl ?_
    refine j_aload0 10 dX6_readClosing_9 rfl ?_
    refine j_getI 13 dX6_readClosing_10 rfl fl_X6_62 rfl rfl ?_
    refine j_top e7 ?_
    refine j_st3f 16 dX6_readClosing_13 rfl rfl cl_X6_80 rfl (c_signAt m t n s.1 ht1 hn (by omega)) ?_
    refine j_bipush 18 (v := 41) dX6_readClosing_16 rfl rfl ?_
    refine j_cmp_ne 34 21 dX6_readClosing_18 rfl rfl (fun h18 => ?_) (fun h18 => ?_)
    · refine j_aload0 35 dX6_readClosing_34 rfl ?_
      refine j_iconst 36 (v := 1) dX6_readClosing_35 rfl rfl ?_
      refine j_putZ 39 (by first | exact Or.inl rfl | exact Or.inr rfl) dX6_readClosing_36 rfl fp_X6_68 rfl rfl ?_
      refine j_vret dX6_readClosing_39 rfl ?_
      first | exact ⟨rfl, by unfold clF; rw [if_pos ⟨ok, h18⟩]; exact CR_av h⟩ | exact ⟨rfl, by unfold clF; rw [if_neg (fun q => h18 q.2)]; exact CR_fl h⟩
    · refine j_aload0 22 dX6_readClosing_21 rfl ?_
      refine j_dup 23 dX6_readClosing_22 rfl rfl ?_
      refine j_getI 26 dX6_readClosing_23 rfl fl_X6_62 rfl rfl ?_
      refine j_top e7 ?_
      refine j_iconst 27 (v := 1) dX6_readClosing_26 rfl rfl ?_
      refine j_iadd 28 dX6_readClosing_27 rfl ?_
      refine j_top (nI_1 s.1) ?_
      refine j_putI 31 dX6_readClosing_28 rfl fp_X6_62 rfl rfl ?_
      refine j_goto 39 dX6_readClosing_31 rfl ?_
      refine j_vret dX6_readClosing_39 rfl ?_
      first | exact ⟨rfl, by unfold clF; rw [if_pos ⟨ok, h18⟩]; exact CR_av h⟩ | exact ⟨rfl, by unfold clF; rw [if_neg (fun q => h18 q.2)]; exact CR_fl h⟩
  · rw [if_neg ok] at e8
    refine j_aload0 1 dX6_readClosing_0 rfl ?_
    refine j_getI 4 dX6_readClosing_1 rfl fl_X6_68 rfl rfl ?_
    refine j_top e8 ?_
    refine j_if_ne 34 7 dX6_readClosing_4 rfl rfl (fun h4 => ?_) (fun h4 => absurd h4 (by decide))
    refine j_aload0 35 dX6_readClosing_34 rfl ?_
    refine j_iconst 36 (v := 1) dX6_readClosing_35 rfl rfl ?_
    refine j_putZ 39 (by first | exact Or.inl rfl | exact Or.inr rfl) dX6_readClosing_36 rfl fp_X6_68 rfl rfl ?_
    refine j_vret dX6_readClosing_39 rfl ?_
    exact ⟨rfl, by unfold clF; rw [if_neg (fun q => ok q.1)]; exact CR_fl h⟩
set_option maxRecDepth 100000 in
theorem lp_num_39 {Q : Option Value → Mem → Prop} (m0 : Mem) (t : Nat → Int32) (n : Nat) (ht : ∀ j, j < 50 → m0 37 j = t j) (hn : n ≤ 50) (o : List Int32) : ∀ (k i : Nat) (m : Mem) (p a : Nat), i + k = 4 → CR 39 m0 m (p, o, true) → p ≤ n → (∀ m' x, CR 39 m0 m' ((dgF t n k p a).1, o, true) → J l g 2 mX6_readNumber 60 [some (rf g 39), some (rf g 37), some (.int (nI n)), some (.int (nI (dgF t n k p a).2)), some x] [] m' Q) → J l g 2 mX6_readNumber 5 [some (rf g 39), some (rf g 37), some (.int (nI n)), some (.int (nI a)), some (.int (nI i))] [] m Q := by
  intro k
  induction k with
  | zero =>
    intro i m p a e h hp kq
    have e : i = 4 := by omega
    subst e
    refine j_iload4 7 dX6_readNumber_5 rfl ?_
    refine j_iconst 8 (v := 4) dX6_readNumber_7 rfl rfl ?_
    refine j_cmp_ge 60 11 dX6_readNumber_8 rfl rfl (fun h8 => ?_) (fun h8 => absurd (by decide) h8)
    exact kq m _ h
  | succ k ih =>
    intro i m p a e h hp kq
    have e2 : nI i + 1 = nI (i + 1) := nI_1 i
    obtain ⟨e7, e8, -, ho, -⟩ := id h
    have e7 : m 39 7 = nI p := e7
    have ht1 : ∀ j, j < 50 → m 37 j = t j := fun j hj => by rw [ho 37 (by decide) (by decide)]; exact ht j hj
    refine j_iload4 7 dX6_readNumber_5 rfl ?_
    refine j_iconst 8 (v := 4) dX6_readNumber_7 rfl rfl ?_
    refine j_cmp_ge 60 11 dX6_readNumber_8 rfl rfl (fun h8 => absurd h8 (nI_ge (a := i) (b := 4) (by omega) (by decide))) (fun h8 => ?_)
    refine j_aload1 12 dX6_readNumber_11 rfl ?_
    refine j_iload2 13 dX6_readNumber_12 rfl ?_
    refine j_aload0 14 dX6_readNumber_13 rfl ?_
    refine j_getI 17 dX6_readNumber_14 rfl fl_X6_62 rfl rfl ?_
    refine j_top e7 ?_
    refine j_st3f 20 dX6_readNumber_17 rfl rfl cl_X6_80 rfl (c_signAt m t n p ht1 hn (by omega)) ?_
    refine j_st1f 23 dX6_readNumber_20 rfl rfl cl_X6_97 rfl (c_isDigit m _) ?_
    refine j_if_eq_bz 60 26 dX6_readNumber_23 rfl rfl (fun h23 => ?_) (fun h23 => ?_)
    · have kq1 := kq m (.int (nI i))
      rw [show dgF t n (k + 1) p a = (p, a) from if_neg h23] at kq1
      exact kq1 h
    · obtain ⟨b, b1, b2, eb⟩ := dg_c h23
      have hlt := sg_lt (t := t) (n := n) (p := p) (fun z => by rw [z] at h23; exact absurd h23.1 (by decide))
      refine j_bipush 28 (v := nI 10) dX6_readNumber_26 rfl rfl ?_
      refine j_iload3 29 dX6_readNumber_28 rfl ?_
      refine j_imulN 30 dX6_readNumber_29 rfl ?_
      refine j_aload1 31 dX6_readNumber_30 rfl ?_
      refine j_iload2 32 dX6_readNumber_31 rfl ?_
      refine j_aload0 33 dX6_readNumber_32 rfl ?_
      refine j_getI 36 dX6_readNumber_33 rfl fl_X6_62 rfl rfl ?_
      refine j_top e7 ?_
      refine j_st3f 39 dX6_readNumber_36 rfl rfl cl_X6_80 rfl (c_signAt m t n p ht1 hn (by omega)) ?_
      refine j_top eb ?_
      refine j_iaddN 40 dX6_readNumber_39 rfl ?_
      refine j_bipush 42 (v := nI 48) dX6_readNumber_40 rfl rfl ?_
      refine j_isub 43 dX6_readNumber_42 rfl ?_
      refine j_top (show nI (10 * a + b) - nI 48 = nI (10 * a + (b - 48)) by rw [pk_sub (by omega)]; congr 1; omega) ?_
      refine j_istore3 44 dX6_readNumber_43 rfl rfl rfl ?_
      refine j_aload0 45 dX6_readNumber_44 rfl ?_
      refine j_dup 46 dX6_readNumber_45 rfl rfl ?_
      refine j_getI 49 dX6_readNumber_46 rfl fl_X6_62 rfl rfl ?_
      refine j_top e7 ?_
      refine j_iconst 50 (v := 1) dX6_readNumber_49 rfl rfl ?_
      refine j_iadd 51 dX6_readNumber_50 rfl ?_
      refine j_top (nI_1 p) ?_
      refine j_putI 54 dX6_readNumber_51 rfl fp_X6_62 rfl rfl ?_
      refine j_iinc4 57 (1) dX6_readNumber_54 rfl rfl rfl rfl ?_
      refine j_goto 5 dX6_readNumber_57 rfl ?_
      rw [e2]
      refine ih (i + 1) _ (p + 1) (10 * a + (b - 48)) (by omega) (CR_av h) hlt ?_
      have kq1 := kq
      rw [show dgF t n (k + 1) p a = dgF t n k (p + 1) (10 * a + ((sgF t n p).toNatClampNeg - 48)) from if_pos h23, eb, nI_clamp (by omega)] at kq1
      exact kq1
set_option maxRecDepth 100000 in
theorem c_number_39 (m m0 : Mem) (s : PT) (t : Nat → Int32) (n : Nat) (ht : ∀ j, j < 50 → m0 37 j = t j) (hn : n ≤ 50) (ok : s.2.2 = true) (hp : s.1 ≤ n) (hb : s.2.1.length < 50) (h : CR 39 m0 m s) : JM l g 2 mX6_readNumber [rf g 39, rf g 37, .int (nI n)] m (RS none (fun m' => CR 39 m0 m' (nuF t n s))) := by
  refine JM_of (ls := [some (rf g 39), some (rf g 37), some (.int (nI n)), none, none]) pn_X6 rfl rfl ?_
  have h1 : CR 39 m0 m (s.1, s.2.1, true) := by rw [← ok]; exact h
  have hv := dg_v t n 4 s.1 0
  refine j_iconst 1 (v := 0) dX6_readNumber_0 rfl rfl ?_
  refine j_istore3 2 dX6_readNumber_1 rfl rfl rfl ?_
  refine j_iconst 3 (v := 0) dX6_readNumber_2 rfl rfl ?_
  refine j_istore4 5 dX6_readNumber_3 rfl rfl rfl ?_
  refine lp_num_39 m0 t n ht hn s.2.1 4 0 m s.1 0 rfl h1 hp (fun m' x h' => ?_)
  refine j_aload0 61 dX6_readNumber_60 rfl ?_
  refine j_sipush 64 (v := nI 256) dX6_readNumber_61 rfl rfl ?_
  refine j_iload3 65 dX6_readNumber_64 rfl ?_
  refine j_iaddN 66 dX6_readNumber_65 rfl ?_
  refine j_top (enc_n (by omega)) ?_
  refine j_vi1w 69 dX6_readNumber_66 rfl rfl cl_X6_88 rfl rfl (c_write_39 m' m0 _ _ h' (fun _ => hb)) (fun m66 q66 => ?_)
  refine j_vret dX6_readNumber_69 rfl ?_
  refine ⟨rfl, ?_⟩
  unfold nuF
  rw [ok]
  exact q66
set_option maxRecDepth 100000 in
theorem c_write_43 (m m0 : Mem) (s : PT) (x : Int32) (h : CR 43 m0 m s) (hb : s.2.2 = true → s.2.1.length < 50) : JM l g 0 mX6_write [rf g 43, .int (encT x)] m (RS none (fun m' => CR 43 m0 m' (wrF x s))) := by
  refine JM_of (ls := [some (rf g 43), some (.int (encT x))]) pn_X6 rfl rfl ?_
  obtain ⟨e7, e8, ⟨k, hk, e6, hc⟩, ho, hs⟩ := id h
  refine j_aload0 1 dX6_write_0 rfl ?_
  refine j_getI 4 dX6_write_1 rfl fl_X6_65 rfl rfl ?_
  refine j_top e6 ?_
  refine j_bipush 6 (v := 50) dX6_write_4 rfl rfl ?_
  refine j_cmp_ge 29 9 dX6_write_6 rfl rfl (fun h6 => ?_) (fun h6 => ?_)
  · refine j_vret dX6_write_29 rfl ?_
    first | exact ⟨rfl, CR_wr h hlt e6⟩ | exact ⟨rfl, CR_no h (fun ok => by have a := hb ok; have b := (hc ok).1; exact nI_ge (a := k) (b := 50) (by omega) (by decide) h6)⟩
  · have hlt : k < 50 := Nat.not_le.mp (fun q => h6 (nI_le (a := 50) (b := k) q (by omega)))
    refine j_aload0 10 dX6_write_9 rfl ?_
    refine j_getR 13 dX6_write_10 rfl fl_X6_18 rfl rfl ?_
    refine j_aload0 14 dX6_write_13 rfl ?_
    refine j_getI 17 dX6_write_14 rfl fl_X6_65 rfl rfl ?_
    refine j_top e6 ?_
    refine j_iload1 18 dX6_write_17 rfl ?_
    refine j_iast 19 k rfl (show k < 50 from hlt) dX6_write_18 rfl rfl ?_
    refine j_aload0 20 dX6_write_19 rfl ?_
    refine j_dup 21 dX6_write_20 rfl rfl ?_
    refine j_getI 24 dX6_write_21 rfl fl_X6_65 rfl rfl ?_
    refine j_top ((up2_a (by decide)).trans e6) ?_
    refine j_iconst 25 (v := 1) dX6_write_24 rfl rfl ?_
    refine j_iadd 26 dX6_write_25 rfl ?_
    refine j_top (nI_1 k) ?_
    refine j_putI 29 dX6_write_26 rfl fp_X6_65 rfl rfl ?_
    refine j_vret dX6_write_29 rfl ?_
    first | exact ⟨rfl, CR_wr h hlt e6⟩ | exact ⟨rfl, CR_no h (fun ok => by have a := hb ok; have b := (hc ok).1; exact nI_ge (a := k) (b := 50) (by omega) (by decide) h6)⟩
set_option maxRecDepth 100000 in
theorem c_closing_43 (m m0 : Mem) (s : PT) (t : Nat → Int32) (n : Nat) (ht : ∀ j, j < 50 → m0 37 j = t j) (hn : n ≤ 50) (hp : s.1 ≤ n) (h : CR 43 m0 m s) : JM l g 1 mX6_readClosing [rf g 43, rf g 37, .int (nI n)] m (RS none (fun m' => CR 43 m0 m' (clF t n s))) := by
  refine JM_of (ls := [some (rf g 43), some (rf g 37), some (.int (nI n))]) pn_X6 rfl rfl ?_
  obtain ⟨e7, e8, -, ho, -⟩ := id h
  have ht1 : ∀ j, j < 50 → m 37 j = t j := fun j hj => by rw [ho 37 (by decide) (by decide)]; exact ht j hj
  by_cases ok : s.2.2 = true
  · rw [if_pos ok] at e8
    refine j_aload0 1 dX6_readClosing_0 rfl ?_
    refine j_getI 4 dX6_readClosing_1 rfl fl_X6_68 rfl rfl ?_
    refine j_top e8 ?_
    refine j_if_ne 34 7 dX6_readClosing_4 rfl rfl (fun h4 => absurd h4 (fun q => q rfl)) (fun h4 => ?_)
    refine j_aload1 8 dX6_readClosing_7 rfl ?_
    refine j_iload2 9 dX6_readClosing_8 rfl ?_
    refine j_aload0 10 dX6_readClosing_9 rfl ?_
    refine j_getI 13 dX6_readClosing_10 rfl fl_X6_62 rfl rfl ?_
    refine j_top e7 ?_
    refine j_st3f 16 dX6_readClosing_13 rfl rfl cl_X6_80 rfl (c_signAt m t n s.1 ht1 hn (by omega)) ?_
    refine j_bipush 18 (v := 41) dX6_readClosing_16 rfl rfl ?_
    refine j_cmp_ne 34 21 dX6_readClosing_18 rfl rfl (fun h18 => ?_) (fun h18 => ?_)
    · refine j_aload0 35 dX6_readClosing_34 rfl ?_
      refine j_iconst 36 (v := 1) dX6_readClosing_35 rfl rfl ?_
      refine j_putZ 39 (by first | exact Or.inl rfl | exact Or.inr rfl) dX6_readClosing_36 rfl fp_X6_68 rfl rfl ?_
      refine j_vret dX6_readClosing_39 rfl ?_
      first | exact ⟨rfl, by unfold clF; rw [if_pos ⟨ok, h18⟩]; exact CR_av h⟩ | exact ⟨rfl, by unfold clF; rw [if_neg (fun q => h18 q.2)]; exact CR_fl h⟩
    · refine j_aload0 22 dX6_readClosing_21 rfl ?_
      refine j_dup 23 dX6_readClosing_22 rfl rfl ?_
      refine j_getI 26 dX6_readClosing_23 rfl fl_X6_62 rfl rfl ?_
      refine j_top e7 ?_
      refine j_iconst 27 (v := 1) dX6_readClosing_26 rfl rfl ?_
      refine j_iadd 28 dX6_readClosing_27 rfl ?_
      refine j_top (nI_1 s.1) ?_
      refine j_putI 31 dX6_readClosing_28 rfl fp_X6_62 rfl rfl ?_
      refine j_goto 39 dX6_readClosing_31 rfl ?_
      refine j_vret dX6_readClosing_39 rfl ?_
      first | exact ⟨rfl, by unfold clF; rw [if_pos ⟨ok, h18⟩]; exact CR_av h⟩ | exact ⟨rfl, by unfold clF; rw [if_neg (fun q => h18 q.2)]; exact CR_fl h⟩
  · rw [if_neg ok] at e8
    refine j_aload0 1 dX6_readClosing_0 rfl ?_
    refine j_getI 4 dX6_readClosing_1 rfl fl_X6_68 rfl rfl ?_
    refine j_top e8 ?_
    refine j_if_ne 34 7 dX6_readClosing_4 rfl rfl (fun h4 => ?_) (fun h4 => absurd h4 (by decide))
    refine j_aload0 35 dX6_readClosing_34 rfl ?_
    refine j_iconst 36 (v := 1) dX6_readClosing_35 rfl rfl ?_
    refine j_putZ 39 (by first | exact Or.inl rfl | exact Or.inr rfl) dX6_readClosing_36 rfl fp_X6_68 rfl rfl ?_
    refine j_vret dX6_readClosing_39 rfl ?_
    exact ⟨rfl, by unfold clF; rw [if_neg (fun q => ok q.1)]; exact CR_fl h⟩
set_option maxRecDepth 100000 in
theorem lp_num_43 {Q : Option Value → Mem → Prop} (m0 : Mem) (t : Nat → Int32) (n : Nat) (ht : ∀ j, j < 50 → m0 37 j = t j) (hn : n ≤ 50) (o : List Int32) : ∀ (k i : Nat) (m : Mem) (p a : Nat), i + k = 4 → CR 43 m0 m (p, o, true) → p ≤ n → (∀ m' x, CR 43 m0 m' ((dgF t n k p a).1, o, true) → J l g 2 mX6_readNumber 60 [some (rf g 43), some (rf g 37), some (.int (nI n)), some (.int (nI (dgF t n k p a).2)), some x] [] m' Q) → J l g 2 mX6_readNumber 5 [some (rf g 43), some (rf g 37), some (.int (nI n)), some (.int (nI a)), some (.int (nI i))] [] m Q := by
  intro k
  induction k with
  | zero =>
    intro i m p a e h hp kq
    have e : i = 4 := by omega
    subst e
    refine j_iload4 7 dX6_readNumber_5 rfl ?_
    refine j_iconst 8 (v := 4) dX6_readNumber_7 rfl rfl ?_
    refine j_cmp_ge 60 11 dX6_readNumber_8 rfl rfl (fun h8 => ?_) (fun h8 => absurd (by decide) h8)
    exact kq m _ h
  | succ k ih =>
    intro i m p a e h hp kq
    have e2 : nI i + 1 = nI (i + 1) := nI_1 i
    obtain ⟨e7, e8, -, ho, -⟩ := id h
    have e7 : m 43 7 = nI p := e7
    have ht1 : ∀ j, j < 50 → m 37 j = t j := fun j hj => by rw [ho 37 (by decide) (by decide)]; exact ht j hj
    refine j_iload4 7 dX6_readNumber_5 rfl ?_
    refine j_iconst 8 (v := 4) dX6_readNumber_7 rfl rfl ?_
    refine j_cmp_ge 60 11 dX6_readNumber_8 rfl rfl (fun h8 => absurd h8 (nI_ge (a := i) (b := 4) (by omega) (by decide))) (fun h8 => ?_)
    refine j_aload1 12 dX6_readNumber_11 rfl ?_
    refine j_iload2 13 dX6_readNumber_12 rfl ?_
    refine j_aload0 14 dX6_readNumber_13 rfl ?_
    refine j_getI 17 dX6_readNumber_14 rfl fl_X6_62 rfl rfl ?_
    refine j_top e7 ?_
    refine j_st3f 20 dX6_readNumber_17 rfl rfl cl_X6_80 rfl (c_signAt m t n p ht1 hn (by omega)) ?_
    refine j_st1f 23 dX6_readNumber_20 rfl rfl cl_X6_97 rfl (c_isDigit m _) ?_
    refine j_if_eq_bz 60 26 dX6_readNumber_23 rfl rfl (fun h23 => ?_) (fun h23 => ?_)
    · have kq1 := kq m (.int (nI i))
      rw [show dgF t n (k + 1) p a = (p, a) from if_neg h23] at kq1
      exact kq1 h
    · obtain ⟨b, b1, b2, eb⟩ := dg_c h23
      have hlt := sg_lt (t := t) (n := n) (p := p) (fun z => by rw [z] at h23; exact absurd h23.1 (by decide))
      refine j_bipush 28 (v := nI 10) dX6_readNumber_26 rfl rfl ?_
      refine j_iload3 29 dX6_readNumber_28 rfl ?_
      refine j_imulN 30 dX6_readNumber_29 rfl ?_
      refine j_aload1 31 dX6_readNumber_30 rfl ?_
      refine j_iload2 32 dX6_readNumber_31 rfl ?_
      refine j_aload0 33 dX6_readNumber_32 rfl ?_
      refine j_getI 36 dX6_readNumber_33 rfl fl_X6_62 rfl rfl ?_
      refine j_top e7 ?_
      refine j_st3f 39 dX6_readNumber_36 rfl rfl cl_X6_80 rfl (c_signAt m t n p ht1 hn (by omega)) ?_
      refine j_top eb ?_
      refine j_iaddN 40 dX6_readNumber_39 rfl ?_
      refine j_bipush 42 (v := nI 48) dX6_readNumber_40 rfl rfl ?_
      refine j_isub 43 dX6_readNumber_42 rfl ?_
      refine j_top (show nI (10 * a + b) - nI 48 = nI (10 * a + (b - 48)) by rw [pk_sub (by omega)]; congr 1; omega) ?_
      refine j_istore3 44 dX6_readNumber_43 rfl rfl rfl ?_
      refine j_aload0 45 dX6_readNumber_44 rfl ?_
      refine j_dup 46 dX6_readNumber_45 rfl rfl ?_
      refine j_getI 49 dX6_readNumber_46 rfl fl_X6_62 rfl rfl ?_
      refine j_top e7 ?_
      refine j_iconst 50 (v := 1) dX6_readNumber_49 rfl rfl ?_
      refine j_iadd 51 dX6_readNumber_50 rfl ?_
      refine j_top (nI_1 p) ?_
      refine j_putI 54 dX6_readNumber_51 rfl fp_X6_62 rfl rfl ?_
      refine j_iinc4 57 (1) dX6_readNumber_54 rfl rfl rfl rfl ?_
      refine j_goto 5 dX6_readNumber_57 rfl ?_
      rw [e2]
      refine ih (i + 1) _ (p + 1) (10 * a + (b - 48)) (by omega) (CR_av h) hlt ?_
      have kq1 := kq
      rw [show dgF t n (k + 1) p a = dgF t n k (p + 1) (10 * a + ((sgF t n p).toNatClampNeg - 48)) from if_pos h23, eb, nI_clamp (by omega)] at kq1
      exact kq1
set_option maxRecDepth 100000 in
theorem c_number_43 (m m0 : Mem) (s : PT) (t : Nat → Int32) (n : Nat) (ht : ∀ j, j < 50 → m0 37 j = t j) (hn : n ≤ 50) (ok : s.2.2 = true) (hp : s.1 ≤ n) (hb : s.2.1.length < 50) (h : CR 43 m0 m s) : JM l g 2 mX6_readNumber [rf g 43, rf g 37, .int (nI n)] m (RS none (fun m' => CR 43 m0 m' (nuF t n s))) := by
  refine JM_of (ls := [some (rf g 43), some (rf g 37), some (.int (nI n)), none, none]) pn_X6 rfl rfl ?_
  have h1 : CR 43 m0 m (s.1, s.2.1, true) := by rw [← ok]; exact h
  have hv := dg_v t n 4 s.1 0
  refine j_iconst 1 (v := 0) dX6_readNumber_0 rfl rfl ?_
  refine j_istore3 2 dX6_readNumber_1 rfl rfl rfl ?_
  refine j_iconst 3 (v := 0) dX6_readNumber_2 rfl rfl ?_
  refine j_istore4 5 dX6_readNumber_3 rfl rfl rfl ?_
  refine lp_num_43 m0 t n ht hn s.2.1 4 0 m s.1 0 rfl h1 hp (fun m' x h' => ?_)
  refine j_aload0 61 dX6_readNumber_60 rfl ?_
  refine j_sipush 64 (v := nI 256) dX6_readNumber_61 rfl rfl ?_
  refine j_iload3 65 dX6_readNumber_64 rfl ?_
  refine j_iaddN 66 dX6_readNumber_65 rfl ?_
  refine j_top (enc_n (by omega)) ?_
  refine j_vi1w 69 dX6_readNumber_66 rfl rfl cl_X6_88 rfl rfl (c_write_43 m' m0 _ _ h' (fun _ => hb)) (fun m66 q66 => ?_)
  refine j_vret dX6_readNumber_69 rfl ?_
  refine ⟨rfl, ?_⟩
  unfold nuF
  rw [ok]
  exact q66
end O33
