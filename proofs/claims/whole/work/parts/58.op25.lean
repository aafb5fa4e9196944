/-! move -/
theorem sub_ti {a b : Nat} (ha : a < 2 ^ 31) (hb : b < 2 ^ 31) : (nI a - nI b).toInt = (a : Int) - b := by
  rw [Int32.toInt_sub, nI_toInt ha, nI_toInt hb, Int.bmod_def]
  split <;> omega
def stN (K : Nat) (i n : Int32) : Prop := ∃ a b : Nat, a + b ≤ K ∧ n = nI a ∧ i = nI b
theorem stc {K : Nat} {i n : Int32} (hK : K < 41) : (0 ≤ n ∧ 0 ≤ i ∧ n ≤ nI K ∧ i ≤ nI K - n) ↔ stN K i n := by
  constructor
  · rintro ⟨h1, h2, h3, h4⟩
    obtain ⟨a, a1, rfl⟩ := nI_of (Int32.not_lt.mpr h1)
    obtain ⟨b, b1, rfl⟩ := nI_of (Int32.not_lt.mpr h2)
    rw [Int32.le_iff_toInt_le, sub_ti (by omega) a1, nI_toInt b1] at h4
    exact ⟨a, b, by omega, rfl, rfl⟩
  · rintro ⟨a, b, h, rfl, rfl⟩
    refine ⟨nI_pos' (by omega), nI_pos' (by omega), nI_le (by omega) (by omega), ?_⟩
    rw [Int32.le_iff_toInt_le, sub_ti (by omega) (by omega), nI_toInt (by omega)]
    omega
theorem stm {K : Nat} {i n : Int32} (hK : K < 41) : (0 ≤ n ∧ 0 ≤ i ∧ n ≤ nI K - i) ↔ stN K i n := by
  constructor
  · rintro ⟨h1, h2, h4⟩
    obtain ⟨a, a1, rfl⟩ := nI_of (Int32.not_lt.mpr h1)
    obtain ⟨b, b1, rfl⟩ := nI_of (Int32.not_lt.mpr h2)
    rw [Int32.le_iff_toInt_le, sub_ti (by omega) b1, nI_toInt a1] at h4
    exact ⟨a, b, by omega, rfl, rfl⟩
  · rintro ⟨a, b, h, rfl, rfl⟩
    refine ⟨nI_pos' (by omega), nI_pos' (by omega), ?_⟩
    rw [Int32.le_iff_toInt_le, sub_ti (by omega) (by omega), nI_toInt (by omega)]
    omega
abbrev lfR (m : Mem) (s i n : Nat) : Nat → Int32 := fun q => if q < n then (fun q => m 79 (40 * s + i + q)) q else m 80 q
theorem SH_move {m m2 : Mem} {s t i j n : Nat} {X : Nat → Int32} (h : ∀ r, r < 4 → SH m r) (hs : s < 4) (ht : t < 4) (hi : i + n ≤ 40) (hj : j + n ≤ 40) (e : m2 = upR (upR (cpy m (61 + s) (61 + t) i j n) 80 X) 79 (fun q => if 40 * t + j ≤ q ∧ q < 40 * t + j + n then (fun q => m 79 (40 * s + i + q)) (q - (40 * t + j)) else m 79 q)) : ∀ r, r < 4 → SH m2 r := by
  intro r hr
  obtain ⟨a1, a2, a3, a4, a5⟩ := h r hr
  have o : ∀ c, c ≠ 61 + t → c ≠ 80 → c ≠ 79 → m2 c = m c := fun c h1 h2 h3 => by rw [e, upR_n h3, upR_n h2]; exact upR_n h1
  have e79 : m2 79 = fun q => if 40 * t + j ≤ q ∧ q < 40 * t + j + n then (fun q => m 79 (40 * s + i + q)) (q - (40 * t + j)) else m 79 q := by rw [e, upR_s]
  have et : m2 (61 + t) = va_cpy (m (61 + s)) (m (61 + t)) i j n := by rw [e, upR_n (by omega), upR_n (by omega)]; exact upR_s
  refine ⟨by rw [o 65 (by omega) (by decide) (by decide), o 77 (by omega) (by decide) (by decide)]; exact a1, by rw [o 66 (by omega) (by decide) (by decide), o 78 (by omega) (by decide) (by decide)]; exact a2, by rw [o 77 (by omega) (by decide) (by decide)]; exact a3, by rw [o 78 (by omega) (by decide) (by decide)]; exact a4, fun p hp => ?_⟩
  rw [e79]
  show _ = if 40 * t + j ≤ 40 * r + p ∧ 40 * r + p < 40 * t + j + n then m 79 (40 * s + i + (40 * r + p - (40 * t + j))) else m 79 (40 * r + p)
  by_cases q : r = t
  · subst q
    rw [et]
    by_cases z : j ≤ p ∧ p < j + n
    · rw [pk_cpy_in z.1 z.2, if_pos (by omega), (h s hs).2.2.2.2 (i + (p - j)) (by omega)]
      congr 1
      omega
    · rw [pk_cpy_out (by omega), if_neg (by omega)]
      exact a5 p hp
  · rw [o (61 + r) (by omega) (by omega) (by omega), if_neg (by omega)]
    exact a5 p hp
section O25
variable {l : Launch} {g : Gv}
set_option maxRecDepth 100000 in
theorem e_move0 (m : Mem) (s i t j n : Int32) (c : ¬ ((0 ≤ s ∧ s ≤ 3) ∧ (0 ≤ t ∧ t ≤ 3))) : JM l g 2 mX11_move [rf g 0, .int s, .int i, .int t, .int j, .int n] m (RF (some (.int (-1000000001))) (errC 1 m)) := by
  refine JM_of (ls := [some (rf g 0), some (.int s), some (.int i), some (.int t), some (.int j), some (.int n)]) pn_X11 rfl rfl ?_
  refine j_iload1 1 dX11_move_0 rfl ?_
  refine j_st1f 4 dX11_move_1 rfl rfl cl_X11_230 rfl (c_isSheet m s) ?_
  refine j_if_eq_bz 14 7 dX11_move_4 rfl rfl (fun h4 => ?_) (fun h4 => ?_)
  · refine j_aload0 15 dX11_move_14 rfl ?_
    refine j_ldc 17 dX11_move_15 rfl kc_X11_81 ?_
    refine j_vi1f 20 dX11_move_17 rfl rfl cl_X11_82 rfl rfl (c_err1 m) ?_
    refine j_iret dX11_move_20 rfl ?_
    exact ⟨rfl, rfl⟩
  · refine j_iload3 8 dX11_move_7 rfl ?_
    refine j_st1f 11 dX11_move_8 rfl rfl cl_X11_230 rfl (c_isSheet m t) ?_
    refine j_if_ne_bz 21 14 dX11_move_11 rfl rfl (fun h11 => ?_) (fun h11 => ?_)
    · exact absurd (show (0 ≤ s ∧ s ≤ 3) ∧ (0 ≤ t ∧ t ≤ 3) from And.intro h4 h11) c
    · refine j_aload0 15 dX11_move_14 rfl ?_
      refine j_ldc 17 dX11_move_15 rfl kc_X11_81 ?_
      refine j_vi1f 20 dX11_move_17 rfl rfl cl_X11_82 rfl rfl (c_err1 m) ?_
      refine j_iret dX11_move_20 rfl ?_
      exact ⟨rfl, rfl⟩
set_option maxRecDepth 100000 in
theorem f_move0 (m : Mem) (s i t j n : Int32) (c : ¬ ((0 ≤ s ∧ s ≤ 3) ∧ (0 ≤ t ∧ t ≤ 3))) : JM l g 2 mX12_move [rf g 68, .int s, .int i, .int t, .int j, .int n] m (RF (some (.int (-1000000001))) (errM 1 m)) := by
  refine JM_of (ls := [some (rf g 68), some (.int s), some (.int i), some (.int t), some (.int j), some (.int n), none]) pn_X12 rfl rfl ?_
  refine j_iload1 1 dX12_move_0 rfl ?_
  refine j_st1f 4 dX12_move_1 rfl rfl cl_X12_243 rfl (c_misSheet m s) ?_
  refine j_if_eq_bz 14 7 dX12_move_4 rfl rfl (fun h4 => ?_) (fun h4 => ?_)
  · refine j_aload0 15 dX12_move_14 rfl ?_
    refine j_iconst 16 (v := 1) dX12_move_15 rfl rfl ?_
    refine j_vi1f 19 dX12_move_16 rfl rfl cl_X12_126 rfl rfl (c_finds1 m) ?_
    refine j_iret dX12_move_19 rfl ?_
    exact ⟨rfl, rfl⟩
  · refine j_iload3 8 dX12_move_7 rfl ?_
    refine j_st1f 11 dX12_move_8 rfl rfl cl_X12_243 rfl (c_misSheet m t) ?_
    refine j_if_ne_bz 20 14 dX12_move_11 rfl rfl (fun h11 => ?_) (fun h11 => ?_)
    · exact absurd (show (0 ≤ s ∧ s ≤ 3) ∧ (0 ≤ t ∧ t ≤ 3) from And.intro h4 h11) c
    · refine j_aload0 15 dX12_move_14 rfl ?_
      refine j_iconst 16 (v := 1) dX12_move_15 rfl rfl ?_
      refine j_vi1f 19 dX12_move_16 rfl rfl cl_X12_126 rfl rfl (c_finds1 m) ?_
      refine j_iret dX12_move_19 rfl ?_
      exact ⟨rfl, rfl⟩
set_option maxRecDepth 100000 in
theorem e_move1 (m : Mem) (s t : Nat) (i j n : Int32) (hs : s < 4) (ht : t < 4) (c : m 65 s = 0 ∨ m 65 t = 0) : JM l g 2 mX11_move [rf g 0, .int (nI s), .int i, .int (nI t), .int j, .int n] m (RF (some (.int (-1000000002))) (errC 2 m)) := by
  refine JM_of (ls := [some (rf g 0), some (.int (nI s)), some (.int i), some (.int (nI t)), some (.int j), some (.int n)]) pn_X11 rfl rfl ?_
  refine j_iload1 1 dX11_move_0 rfl ?_
  refine j_st1f 4 dX11_move_1 rfl rfl cl_X11_230 rfl (c_isSheet m _) ?_
  refine j_if_eq_bz 14 7 dX11_move_4 rfl rfl (fun h4 => absurd ((rngN 3 (by decide)).mpr ⟨s, by omega, rfl⟩) h4) (fun h4 => ?_)
  refine j_iload3 8 dX11_move_7 rfl ?_
  refine j_st1f 11 dX11_move_8 rfl rfl cl_X11_230 rfl (c_isSheet m _) ?_
  refine j_if_ne_bz 21 14 dX11_move_11 rfl rfl (fun h11 => ?_) (fun h11 => absurd ((rngN 3 (by decide)).mpr ⟨t, by omega, rfl⟩) h11)
  refine j_aload0 22 dX11_move_21 rfl ?_
  refine j_iload1 23 dX11_move_22 rfl ?_
  refine j_vi1f 26 dX11_move_23 rfl rfl cl_X11_233 rfl rfl (c_isMissing m s hs) ?_
  refine j_if_ne_bz 37 29 dX11_move_26 rfl rfl (fun h26 => ?_) (fun h26 => ?_)
  · refine j_aload0 38 dX11_move_37 rfl ?_
    refine j_ldc 40 dX11_move_38 rfl kc_X11_223 ?_
    refine j_vi1f 43 dX11_move_40 rfl rfl cl_X11_82 rfl rfl (c_err2 m) ?_
    refine j_iret dX11_move_43 rfl ?_
    exact ⟨rfl, rfl⟩
  · refine j_aload0 30 dX11_move_29 rfl ?_
    refine j_iload3 31 dX11_move_30 rfl ?_
    refine j_vi1f 34 dX11_move_31 rfl rfl cl_X11_233 rfl rfl (c_isMissing m t ht) ?_
    refine j_if_eq_bz 44 37 dX11_move_34 rfl rfl (fun h34 => ?_) (fun h34 => ?_)
    · exact absurd c (fun q => q.elim h26 h34)
    · refine j_aload0 38 dX11_move_37 rfl ?_
      refine j_ldc 40 dX11_move_38 rfl kc_X11_223 ?_
      refine j_vi1f 43 dX11_move_40 rfl rfl cl_X11_82 rfl rfl (c_err2 m) ?_
      refine j_iret dX11_move_43 rfl ?_
      exact ⟨rfl, rfl⟩
set_option maxRecDepth 100000 in
theorem f_move1 (m : Mem) (s t : Nat) (i j n : Int32) (hs : s < 4) (ht : t < 4) (c : m 77 s = 0 ∨ m 77 t = 0) : JM l g 2 mX12_move [rf g 68, .int (nI s), .int i, .int (nI t), .int j, .int n] m (RF (some (.int (-1000000002))) (errM 2 m)) := by
  refine JM_of (ls := [some (rf g 68), some (.int (nI s)), some (.int i), some (.int (nI t)), some (.int j), some (.int n), none]) pn_X12 rfl rfl ?_
  refine j_iload1 1 dX12_move_0 rfl ?_
  refine j_st1f 4 dX12_move_1 rfl rfl cl_X12_243 rfl (c_misSheet m _) ?_
  refine j_if_eq_bz 14 7 dX12_move_4 rfl rfl (fun h4 => absurd ((rngN 3 (by decide)).mpr ⟨s, by omega, rfl⟩) h4) (fun h4 => ?_)
  refine j_iload3 8 dX12_move_7 rfl ?_
  refine j_st1f 11 dX12_move_8 rfl rfl cl_X12_243 rfl (c_misSheet m _) ?_
  refine j_if_ne_bz 20 14 dX12_move_11 rfl rfl (fun h11 => ?_) (fun h11 => absurd ((rngN 3 (by decide)).mpr ⟨t, by omega, rfl⟩) h11)
  refine j_aload0 21 dX12_move_20 rfl ?_
  refine j_getR 24 dX12_move_21 rfl fl_X12_34 rfl rfl ?_
  refine j_iload1 25 dX12_move_24 rfl ?_
  refine j_iald 26 _ rfl hs dX12_move_25 rfl rfl ?_
  refine j_if_eq 38 29 dX12_move_26 rfl rfl (fun h26 => ?_) (fun h26 => ?_)
  · refine j_aload0 39 dX12_move_38 rfl ?_
    refine j_iconst 40 (v := 2) dX12_move_39 rfl rfl ?_
    refine j_vi1f 43 dX12_move_40 rfl rfl cl_X12_126 rfl rfl (c_finds2 m) ?_
    refine j_iret dX12_move_43 rfl ?_
    exact ⟨rfl, rfl⟩
  · refine j_aload0 30 dX12_move_29 rfl ?_
    refine j_getR 33 dX12_move_30 rfl fl_X12_34 rfl rfl ?_
    refine j_iload3 34 dX12_move_33 rfl ?_
    refine j_iald 35 _ rfl ht dX12_move_34 rfl rfl ?_
    refine j_if_ne 44 38 dX12_move_35 rfl rfl (fun h35 => ?_) (fun h35 => ?_)
    · exact absurd c (fun q => q.elim h26 h35)
    · refine j_aload0 39 dX12_move_38 rfl ?_
      refine j_iconst 40 (v := 2) dX12_move_39 rfl rfl ?_
      refine j_vi1f 43 dX12_move_40 rfl rfl cl_X12_126 rfl rfl (c_finds2 m) ?_
      refine j_iret dX12_move_43 rfl ?_
      exact ⟨rfl, rfl⟩
set_option maxRecDepth 100000 in
theorem e_move5 (m : Mem) (s t : Nat) (i j n : Int32) (hs : s < 4) (ht : t < 4) (c1 : ¬ m 65 s = 0) (c2 : ¬ m 65 t = 0) (c : ¬ m 65 s = m 65 t) : JM l g 2 mX11_move [rf g 0, .int (nI s), .int i, .int (nI t), .int j, .int n] m (RF (some (.int (-1000000005))) (errC 5 m)) := by
  refine JM_of (ls := [some (rf g 0), some (.int (nI s)), some (.int i), some (.int (nI t)), some (.int j), some (.int n)]) pn_X11 rfl rfl ?_
  refine j_iload1 1 dX11_move_0 rfl ?_
  refine j_st1f 4 dX11_move_1 rfl rfl cl_X11_230 rfl (c_isSheet m _) ?_
  refine j_if_eq_bz 14 7 dX11_move_4 rfl rfl (fun h4 => absurd ((rngN 3 (by decide)).mpr ⟨s, by omega, rfl⟩) h4) (fun h4 => ?_)
  refine j_iload3 8 dX11_move_7 rfl ?_
  refine j_st1f 11 dX11_move_8 rfl rfl cl_X11_230 rfl (c_isSheet m _) ?_
  refine j_if_ne_bz 21 14 dX11_move_11 rfl rfl (fun h11 => ?_) (fun h11 => absurd ((rngN 3 (by decide)).mpr ⟨t, by omega, rfl⟩) h11)
  refine j_aload0 22 dX11_move_21 rfl ?_
  refine j_iload1 23 dX11_move_22 rfl ?_
  refine j_vi1f 26 dX11_move_23 rfl rfl cl_X11_233 rfl rfl (c_isMissing m s hs) ?_
  refine j_if_ne_bz 37 29 dX11_move_26 rfl rfl (fun h26 => absurd h26 c1) (fun h26 => ?_)
  refine j_aload0 30 dX11_move_29 rfl ?_
  refine j_iload3 31 dX11_move_30 rfl ?_
  refine j_vi1f 34 dX11_move_31 rfl rfl cl_X11_233 rfl rfl (c_isMissing m t ht) ?_
  refine j_if_eq_bz 44 37 dX11_move_34 rfl rfl (fun h34 => ?_) (fun h34 => absurd h34 c2)
  refine j_aload0 45 dX11_move_44 rfl ?_
  refine j_getR 48 dX11_move_45 rfl fl_X11_67 rfl rfl ?_
  refine j_iload1 49 dX11_move_48 rfl ?_
  refine j_iald 50 _ rfl hs dX11_move_49 rfl rfl ?_
  refine j_aload0 51 dX11_move_50 rfl ?_
  refine j_getR 54 dX11_move_51 rfl fl_X11_67 rfl rfl ?_
  refine j_iload3 55 dX11_move_54 rfl ?_
  refine j_iald 56 _ rfl ht dX11_move_55 rfl rfl ?_
  refine j_cmp_eq 66 59 dX11_move_56 rfl rfl (fun h56 => absurd h56 c) (fun h56 => ?_)
  refine j_aload0 60 dX11_move_59 rfl ?_
  refine j_ldc 62 dX11_move_60 rfl kc_X11_173 ?_
  refine j_vi1f 65 dX11_move_62 rfl rfl cl_X11_82 rfl rfl (c_err5 m) ?_
  refine j_iret dX11_move_65 rfl ?_
  exact ⟨rfl, rfl⟩
set_option maxRecDepth 100000 in
theorem f_move5 (m : Mem) (s t : Nat) (i j n : Int32) (hs : s < 4) (ht : t < 4) (c1 : ¬ m 77 s = 0) (c2 : ¬ m 77 t = 0) (c : ¬ m 77 s = m 77 t) : JM l g 2 mX12_move [rf g 68, .int (nI s), .int i, .int (nI t), .int j, .int n] m (RF (some (.int (-1000000005))) (errM 5 m)) := by
  refine JM_of (ls := [some (rf g 68), some (.int (nI s)), some (.int i), some (.int (nI t)), some (.int j), some (.int n), none]) pn_X12 rfl rfl ?_
  refine j_iload1 1 dX12_move_0 rfl ?_
  refine j_st1f 4 dX12_move_1 rfl rfl cl_X12_243 rfl (c_misSheet m _) ?_
  refine j_if_eq_bz 14 7 dX12_move_4 rfl rfl (fun h4 => absurd ((rngN 3 (by decide)).mpr ⟨s, by omega, rfl⟩) h4) (fun h4 => ?_)
  refine j_iload3 8 dX12_move_7 rfl ?_
  refine j_st1f 11 dX12_move_8 rfl rfl cl_X12_243 rfl (c_misSheet m _) ?_
  refine j_if_ne_bz 20 14 dX12_move_11 rfl rfl (fun h11 => ?_) (fun h11 => absurd ((rngN 3 (by decide)).mpr ⟨t, by omega, rfl⟩) h11)
  refine j_aload0 21 dX12_move_20 rfl ?_
  refine j_getR 24 dX12_move_21 rfl fl_X12_34 rfl rfl ?_
  refine j_iload1 25 dX12_move_24 rfl ?_
  refine j_iald 26 _ rfl hs dX12_move_25 rfl rfl ?_
  refine j_if_eq 38 29 dX12_move_26 rfl rfl (fun h26 => absurd h26 c1) (fun h26 => ?_)
  refine j_aload0 30 dX12_move_29 rfl ?_
  refine j_getR 33 dX12_move_30 rfl fl_X12_34 rfl rfl ?_
  refine j_iload3 34 dX12_move_33 rfl ?_
  refine j_iald 35 _ rfl ht dX12_move_34 rfl rfl ?_
  refine j_if_ne 44 38 dX12_move_35 rfl rfl (fun h35 => ?_) (fun h35 => absurd h35 c2)
  refine j_aload0 45 dX12_move_44 rfl ?_
  refine j_getR 48 dX12_move_45 rfl fl_X12_34 rfl rfl ?_
  refine j_iload1 49 dX12_move_48 rfl ?_
  refine j_iald 50 _ rfl hs dX12_move_49 rfl rfl ?_
  refine j_aload0 51 dX12_move_50 rfl ?_
  refine j_getR 54 dX12_move_51 rfl fl_X12_34 rfl rfl ?_
  refine j_iload3 55 dX12_move_54 rfl ?_
  refine j_iald 56 _ rfl ht dX12_move_55 rfl rfl ?_
  refine j_cmp_eq 65 59 dX12_move_56 rfl rfl (fun h56 => absurd h56 c) (fun h56 => ?_)
  refine j_aload0 60 dX12_move_59 rfl ?_
  refine j_iconst 61 (v := 5) dX12_move_60 rfl rfl ?_
  refine j_vi1f 64 dX12_move_61 rfl rfl cl_X12_126 rfl rfl (c_finds5 m) ?_
  refine j_iret dX12_move_64 rfl ?_
  exact ⟨rfl, rfl⟩
set_option maxRecDepth 100000 in
theorem e_move2 (m : Mem) (s t : Nat) (i j n : Int32) (hs : s < 4) (ht : t < 4) (c1 : ¬ m 65 s = 0) (c2 : ¬ m 65 t = 0) (c3 : m 65 s = m 65 t) (c : ¬ ((0 ≤ n ∧ 0 ≤ i ∧ n ≤ m 66 s ∧ i ≤ m 66 s - n) ∧ (0 ≤ n ∧ 0 ≤ j ∧ n ≤ m 66 t ∧ j ≤ m 66 t - n))) : JM l g 2 mX11_move [rf g 0, .int (nI s), .int i, .int (nI t), .int j, .int n] m (RF (some (.int (-1000000001))) (errC 1 m)) := by
  refine JM_of (ls := [some (rf g 0), some (.int (nI s)), some (.int i), some (.int (nI t)), some (.int j), some (.int n)]) pn_X11 rfl rfl ?_
  refine j_iload1 1 dX11_move_0 rfl ?_
  refine j_st1f 4 dX11_move_1 rfl rfl cl_X11_230 rfl (c_isSheet m _) ?_
  refine j_if_eq_bz 14 7 dX11_move_4 rfl rfl (fun h4 => absurd ((rngN 3 (by decide)).mpr ⟨s, by omega, rfl⟩) h4) (fun h4 => ?_)
  refine j_iload3 8 dX11_move_7 rfl ?_
  refine j_st1f 11 dX11_move_8 rfl rfl cl_X11_230 rfl (c_isSheet m _) ?_
  refine j_if_ne_bz 21 14 dX11_move_11 rfl rfl (fun h11 => ?_) (fun h11 => absurd ((rngN 3 (by decide)).mpr ⟨t, by omega, rfl⟩) h11)
  refine j_aload0 22 dX11_move_21 rfl ?_
  refine j_iload1 23 dX11_move_22 rfl ?_
  refine j_vi1f 26 dX11_move_23 rfl rfl cl_X11_233 rfl rfl (c_isMissing m s hs) ?_
  refine j_if_ne_bz 37 29 dX11_move_26 rfl rfl (fun h26 => absurd h26 c1) (fun h26 => ?_)
  refine j_aload0 30 dX11_move_29 rfl ?_
  refine j_iload3 31 dX11_move_30 rfl ?_
  refine j_vi1f 34 dX11_move_31 rfl rfl cl_X11_233 rfl rfl (c_isMissing m t ht) ?_
  refine j_if_eq_bz 44 37 dX11_move_34 rfl rfl (fun h34 => ?_) (fun h34 => absurd h34 c2)
  refine j_aload0 45 dX11_move_44 rfl ?_
  refine j_getR 48 dX11_move_45 rfl fl_X11_67 rfl rfl ?_
  refine j_iload1 49 dX11_move_48 rfl ?_
  refine j_iald 50 _ rfl hs dX11_move_49 rfl rfl ?_
  refine j_aload0 51 dX11_move_50 rfl ?_
  refine j_getR 54 dX11_move_51 rfl fl_X11_67 rfl rfl ?_
  refine j_iload3 55 dX11_move_54 rfl ?_
  refine j_iald 56 _ rfl ht dX11_move_55 rfl rfl ?_
  refine j_cmp_eq 66 59 dX11_move_56 rfl rfl (fun h56 => ?_) (fun h56 => absurd c3 h56)
  refine j_aload0 67 dX11_move_66 rfl ?_
  refine j_iload1 68 dX11_move_67 rfl ?_
  refine j_iload2 69 dX11_move_68 rfl ?_
  refine j_iload5 71 dX11_move_69 rfl ?_
  refine j_vi3f 74 dX11_move_71 rfl rfl cl_X11_285 rfl rfl (c_stand m s hs i n) ?_
  refine j_if_eq_bz 89 77 dX11_move_74 rfl rfl (fun h74 => ?_) (fun h74 => ?_)
  · refine j_aload0 90 dX11_move_89 rfl ?_
    refine j_ldc 92 dX11_move_90 rfl kc_X11_81 ?_
    refine j_vi1f 95 dX11_move_92 rfl rfl cl_X11_82 rfl rfl (c_err1 m) ?_
    refine j_iret dX11_move_95 rfl ?_
    exact ⟨rfl, rfl⟩
  · refine j_aload0 78 dX11_move_77 rfl ?_
    refine j_iload3 79 dX11_move_78 rfl ?_
    refine j_iload4 81 dX11_move_79 rfl ?_
    refine j_iload5 83 dX11_move_81 rfl ?_
    refine j_vi3f 86 dX11_move_83 rfl rfl cl_X11_285 rfl rfl (c_stand m t ht j n) ?_
    refine j_if_ne_bz 96 89 dX11_move_86 rfl rfl (fun h86 => ?_) (fun h86 => ?_)
    · exact absurd (And.intro h74 h86) c
    · refine j_aload0 90 dX11_move_89 rfl ?_
      refine j_ldc 92 dX11_move_90 rfl kc_X11_81 ?_
      refine j_vi1f 95 dX11_move_92 rfl rfl cl_X11_82 rfl rfl (c_err1 m) ?_
      refine j_iret dX11_move_95 rfl ?_
      exact ⟨rfl, rfl⟩
set_option maxRecDepth 100000 in
theorem f_move2 (m : Mem) (s t : Nat) (i j n : Int32) (hs : s < 4) (ht : t < 4) (c1 : ¬ m 77 s = 0) (c2 : ¬ m 77 t = 0) (c3 : m 77 s = m 77 t) (c : ¬ ((0 ≤ n ∧ 0 ≤ i ∧ n ≤ m 78 s - i) ∧ (0 ≤ n ∧ 0 ≤ j ∧ n ≤ m 78 t - j))) : JM l g 2 mX12_move [rf g 68, .int (nI s), .int i, .int (nI t), .int j, .int n] m (RF (some (.int (-1000000001))) (errM 1 m)) := by
  refine JM_of (ls := [some (rf g 68), some (.int (nI s)), some (.int i), some (.int (nI t)), some (.int j), some (.int n), none]) pn_X12 rfl rfl ?_
  refine j_iload1 1 dX12_move_0 rfl ?_
  refine j_st1f 4 dX12_move_1 rfl rfl cl_X12_243 rfl (c_misSheet m _) ?_
  refine j_if_eq_bz 14 7 dX12_move_4 rfl rfl (fun h4 => absurd ((rngN 3 (by decide)).mpr ⟨s, by omega, rfl⟩) h4) (fun h4 => ?_)
  refine j_iload3 8 dX12_move_7 rfl ?_
  refine j_st1f 11 dX12_move_8 rfl rfl cl_X12_243 rfl (c_misSheet m _) ?_
  refine j_if_ne_bz 20 14 dX12_move_11 rfl rfl (fun h11 => ?_) (fun h11 => absurd ((rngN 3 (by decide)).mpr ⟨t, by omega, rfl⟩) h11)
  refine j_aload0 21 dX12_move_20 rfl ?_
  refine j_getR 24 dX12_move_21 rfl fl_X12_34 rfl rfl ?_
  refine j_iload1 25 dX12_move_24 rfl ?_
  refine j_iald 26 _ rfl hs dX12_move_25 rfl rfl ?_
  refine j_if_eq 38 29 dX12_move_26 rfl rfl (fun h26 => absurd h26 c1) (fun h26 => ?_)
  refine j_aload0 30 dX12_move_29 rfl ?_
  refine j_getR 33 dX12_move_30 rfl fl_X12_34 rfl rfl ?_
  refine j_iload3 34 dX12_move_33 rfl ?_
  refine j_iald 35 _ rfl ht dX12_move_34 rfl rfl ?_
  refine j_if_ne 44 38 dX12_move_35 rfl rfl (fun h35 => ?_) (fun h35 => absurd h35 c2)
  refine j_aload0 45 dX12_move_44 rfl ?_
  refine j_getR 48 dX12_move_45 rfl fl_X12_34 rfl rfl ?_
  refine j_iload1 49 dX12_move_48 rfl ?_
  refine j_iald 50 _ rfl hs dX12_move_49 rfl rfl ?_
  refine j_aload0 51 dX12_move_50 rfl ?_
  refine j_getR 54 dX12_move_51 rfl fl_X12_34 rfl rfl ?_
  refine j_iload3 55 dX12_move_54 rfl ?_
  refine j_iald 56 _ rfl ht dX12_move_55 rfl rfl ?_
  refine j_cmp_eq 65 59 dX12_move_56 rfl rfl (fun h56 => ?_) (fun h56 => absurd c3 h56)
  refine j_iload5 67 dX12_move_65 rfl ?_
  refine j_if_lt 106 70 dX12_move_67 rfl rfl (fun h67 => ?_) (fun h67 => ?_)
  · refine j_aload0 107 dX12_move_106 rfl ?_
    refine j_iconst 108 (v := 1) dX12_move_107 rfl rfl ?_
    refine j_vi1f 111 dX12_move_108 rfl rfl cl_X12_126 rfl rfl (c_finds1 m) ?_
    refine j_iret dX12_move_111 rfl ?_
    exact ⟨rfl, rfl⟩
  · refine j_iload2 71 dX12_move_70 rfl ?_
    refine j_if_lt 106 74 dX12_move_71 rfl rfl (fun h71 => ?_) (fun h71 => ?_)
    · refine j_aload0 107 dX12_move_106 rfl ?_
      refine j_iconst 108 (v := 1) dX12_move_107 rfl rfl ?_
      refine j_vi1f 111 dX12_move_108 rfl rfl cl_X12_126 rfl rfl (c_finds1 m) ?_
      refine j_iret dX12_move_111 rfl ?_
      exact ⟨rfl, rfl⟩
    · refine j_iload4 76 dX12_move_74 rfl ?_
      refine j_if_lt 106 79 dX12_move_76 rfl rfl (fun h76 => ?_) (fun h76 => ?_)
      · refine j_aload0 107 dX12_move_106 rfl ?_
        refine j_iconst 108 (v := 1) dX12_move_107 rfl rfl ?_
        refine j_vi1f 111 dX12_move_108 rfl rfl cl_X12_126 rfl rfl (c_finds1 m) ?_
        refine j_iret dX12_move_111 rfl ?_
        exact ⟨rfl, rfl⟩
      · refine j_iload5 81 dX12_move_79 rfl ?_
        refine j_aload0 82 dX12_move_81 rfl ?_
        refine j_getR 85 dX12_move_82 rfl fl_X12_37 rfl rfl ?_
        refine j_iload1 86 dX12_move_85 rfl ?_
        refine j_iald 87 _ rfl hs dX12_move_86 rfl rfl ?_
        refine j_iload2 88 dX12_move_87 rfl ?_
        refine j_isub 89 dX12_move_88 rfl ?_
        refine j_cmp_gt 106 92 dX12_move_89 rfl rfl (fun h89 => ?_) (fun h89 => ?_)
        · refine j_aload0 107 dX12_move_106 rfl ?_
          refine j_iconst 108 (v := 1) dX12_move_107 rfl rfl ?_
          refine j_vi1f 111 dX12_move_108 rfl rfl cl_X12_126 rfl rfl (c_finds1 m) ?_
          refine j_iret dX12_move_111 rfl ?_
          exact ⟨rfl, rfl⟩
        · refine j_iload5 94 dX12_move_92 rfl ?_
          refine j_aload0 95 dX12_move_94 rfl ?_
          refine j_getR 98 dX12_move_95 rfl fl_X12_37 rfl rfl ?_
          refine j_iload3 99 dX12_move_98 rfl ?_
          refine j_iald 100 _ rfl ht dX12_move_99 rfl rfl ?_
          refine j_iload4 102 dX12_move_100 rfl ?_
          refine j_isub 103 dX12_move_102 rfl ?_
          refine j_cmp_le 112 106 dX12_move_103 rfl rfl (fun h103 => ?_) (fun h103 => ?_)
          · exact absurd (And.intro (And.intro (Int32.not_lt.mp h67) (And.intro (Int32.not_lt.mp h71) (Int32.not_lt.mp h89))) (And.intro (Int32.not_lt.mp h67) (And.intro (Int32.not_lt.mp h76) h103))) c
          · refine j_aload0 107 dX12_move_106 rfl ?_
            refine j_iconst 108 (v := 1) dX12_move_107 rfl rfl ?_
            refine j_vi1f 111 dX12_move_108 rfl rfl cl_X12_126 rfl rfl (c_finds1 m) ?_
            refine j_iret dX12_move_111 rfl ?_
            exact ⟨rfl, rfl⟩
set_option maxRecDepth 100000 in
theorem o_move_0_0 (m : Mem) (i j n : Nat) (c1 : ¬ m 65 0 = 0) (c2 : ¬ m 65 0 = 0) (c3 : m 65 0 = m 65 0) (hi : i + n ≤ 40) (hj : j + n ≤ 40) (c4 : 0 ≤ nI n ∧ 0 ≤ nI i ∧ nI n ≤ m 66 0 ∧ nI i ≤ m 66 0 - nI n) (c5 : 0 ≤ nI n ∧ 0 ≤ nI j ∧ nI n ≤ m 66 0 ∧ nI j ≤ m 66 0 - nI n) : JM l g 2 mX11_move [rf g 0, .int (nI 0), .int (nI i), .int (nI 0), .int (nI j), .int (nI n)] m (RF (some (.int (nI n))) (cpy m 61 61 i j n)) := by
  refine JM_of (ls := [some (rf g 0), some (.int (nI 0)), some (.int (nI i)), some (.int (nI 0)), some (.int (nI j)), some (.int (nI n))]) pn_X11 rfl rfl ?_
  refine j_iload1 1 dX11_move_0 rfl ?_
  refine j_st1f 4 dX11_move_1 rfl rfl cl_X11_230 rfl (c_isSheet m _) ?_
  refine j_if_eq_bz 14 7 dX11_move_4 rfl rfl (fun h4 => absurd (by decide) h4) (fun h4 => ?_)
  refine j_iload3 8 dX11_move_7 rfl ?_
  refine j_st1f 11 dX11_move_8 rfl rfl cl_X11_230 rfl (c_isSheet m _) ?_
  refine j_if_ne_bz 21 14 dX11_move_11 rfl rfl (fun h11 => ?_) (fun h11 => absurd (by decide) h11)
  refine j_aload0 22 dX11_move_21 rfl ?_
  refine j_iload1 23 dX11_move_22 rfl ?_
  refine j_vi1f 26 dX11_move_23 rfl rfl cl_X11_233 rfl rfl (c_isMissing m 0 (by decide)) ?_
  refine j_if_ne_bz 37 29 dX11_move_26 rfl rfl (fun h26 => absurd h26 c1) (fun h26 => ?_)
  refine j_aload0 30 dX11_move_29 rfl ?_
  refine j_iload3 31 dX11_move_30 rfl ?_
  refine j_vi1f 34 dX11_move_31 rfl rfl cl_X11_233 rfl rfl (c_isMissing m 0 (by decide)) ?_
  refine j_if_eq_bz 44 37 dX11_move_34 rfl rfl (fun h34 => ?_) (fun h34 => absurd h34 c2)
  refine j_aload0 45 dX11_move_44 rfl ?_
  refine j_getR 48 dX11_move_45 rfl fl_X11_67 rfl rfl ?_
  refine j_iload1 49 dX11_move_48 rfl ?_
  refine j_iald 50 0 rfl (by decide) dX11_move_49 rfl rfl ?_
  refine j_aload0 51 dX11_move_50 rfl ?_
  refine j_getR 54 dX11_move_51 rfl fl_X11_67 rfl rfl ?_
  refine j_iload3 55 dX11_move_54 rfl ?_
  refine j_iald 56 0 rfl (by decide) dX11_move_55 rfl rfl ?_
  refine j_cmp_eq 66 59 dX11_move_56 rfl rfl (fun h56 => ?_) (fun h56 => absurd c3 h56)
  refine j_aload0 67 dX11_move_66 rfl ?_
  refine j_iload1 68 dX11_move_67 rfl ?_
  refine j_iload2 69 dX11_move_68 rfl ?_
  refine j_iload5 71 dX11_move_69 rfl ?_
  refine j_vi3f 74 dX11_move_71 rfl rfl cl_X11_285 rfl rfl (c_stand m 0 (by decide) _ _) ?_
  refine j_if_eq_bz 89 77 dX11_move_74 rfl rfl (fun h74 => absurd c4 h74) (fun h74 => ?_)
  refine j_aload0 78 dX11_move_77 rfl ?_
  refine j_iload3 79 dX11_move_78 rfl ?_
  refine j_iload4 81 dX11_move_79 rfl ?_
  refine j_iload5 83 dX11_move_81 rfl ?_
  refine j_vi3f 86 dX11_move_83 rfl rfl cl_X11_285 rfl rfl (c_stand m 0 (by decide) _ _) ?_
  refine j_if_ne_bz 96 89 dX11_move_86 rfl rfl (fun h86 => ?_) (fun h86 => absurd c5 h86)
  refine j_aload0 97 dX11_move_96 rfl ?_
  refine j_getR 100 dX11_move_97 rfl fl_X11_64 rfl rfl ?_
  refine j_iload1 101 dX11_move_100 rfl ?_
  refine j_aald 102 0 rfl (by decide) dX11_move_101 rfl (by decide) ?_
  refine j_ref (b := 61) (by decide) ?_
  refine j_iload2 103 dX11_move_102 rfl ?_
  refine j_aload0 104 dX11_move_103 rfl ?_
  refine j_getR 107 dX11_move_104 rfl fl_X11_64 rfl rfl ?_
  refine j_iload3 108 dX11_move_107 rfl ?_
  refine j_aald 109 0 rfl (by decide) dX11_move_108 rfl (by decide) ?_
  refine j_ref (b := 61) (by decide) ?_
  refine j_iload4 111 dX11_move_109 rfl ?_
  refine j_iload5 113 dX11_move_111 rfl ?_
  refine j_copy 116 i j n rfl rfl rfl (show i + n ≤ 40 from hi) (show j + n ≤ 40 from hj) dX11_move_113 rfl rfl ac_X11_291 rfl rfl rfl ?_
  refine j_iload5 118 dX11_move_116 rfl ?_
  refine j_iret dX11_move_118 rfl ?_
  exact ⟨rfl, rfl⟩
set_option maxRecDepth 100000 in
theorem o_move_0_1 (m : Mem) (i j n : Nat) (c1 : ¬ m 65 0 = 0) (c2 : ¬ m 65 1 = 0) (c3 : m 65 0 = m 65 1) (hi : i + n ≤ 40) (hj : j + n ≤ 40) (c4 : 0 ≤ nI n ∧ 0 ≤ nI i ∧ nI n ≤ m 66 0 ∧ nI i ≤ m 66 0 - nI n) (c5 : 0 ≤ nI n ∧ 0 ≤ nI j ∧ nI n ≤ m 66 1 ∧ nI j ≤ m 66 1 - nI n) : JM l g 2 mX11_move [rf g 0, .int (nI 0), .int (nI i), .int (nI 1), .int (nI j), .int (nI n)] m (RF (some (.int (nI n))) (cpy m 61 62 i j n)) := by
  refine JM_of (ls := [some (rf g 0), some (.int (nI 0)), some (.int (nI i)), some (.int (nI 1)), some (.int (nI j)), some (.int (nI n))]) pn_X11 rfl rfl ?_
  refine j_iload1 1 dX11_move_0 rfl ?_
  refine j_st1f 4 dX11_move_1 rfl rfl cl_X11_230 rfl (c_isSheet m _) ?_
  refine j_if_eq_bz 14 7 dX11_move_4 rfl rfl (fun h4 => absurd (by decide) h4) (fun h4 => ?_)
  refine j_iload3 8 dX11_move_7 rfl ?_
  refine j_st1f 11 dX11_move_8 rfl rfl cl_X11_230 rfl (c_isSheet m _) ?_
  refine j_if_ne_bz 21 14 dX11_move_11 rfl rfl (fun h11 => ?_) (fun h11 => absurd (by decide) h11)
  refine j_aload0 22 dX11_move_21 rfl ?_
  refine j_iload1 23 dX11_move_22 rfl ?_
  refine j_vi1f 26 dX11_move_23 rfl rfl cl_X11_233 rfl rfl (c_isMissing m 0 (by decide)) ?_
  refine j_if_ne_bz 37 29 dX11_move_26 rfl rfl (fun h26 => absurd h26 c1) (fun h26 => ?_)
  refine j_aload0 30 dX11_move_29 rfl ?_
  refine j_iload3 31 dX11_move_30 rfl ?_
  refine j_vi1f 34 dX11_move_31 rfl rfl cl_X11_233 rfl rfl (c_isMissing m 1 (by decide)) ?_
  refine j_if_eq_bz 44 37 dX11_move_34 rfl rfl (fun h34 => ?_) (fun h34 => absurd h34 c2)
  refine j_aload0 45 dX11_move_44 rfl ?_
  refine j_getR 48 dX11_move_45 rfl fl_X11_67 rfl rfl ?_
  refine j_iload1 49 dX11_move_48 rfl ?_
  refine j_iald 50 0 rfl (by decide) dX11_move_49 rfl rfl ?_
  refine j_aload0 51 dX11_move_50 rfl ?_
  refine j_getR 54 dX11_move_51 rfl fl_X11_67 rfl rfl ?_
  refine j_iload3 55 dX11_move_54 rfl ?_
  refine j_iald 56 1 rfl (by decide) dX11_move_55 rfl rfl ?_
  refine j_cmp_eq 66 59 dX11_move_56 rfl rfl (fun h56 => ?_) (fun h56 => absurd c3 h56)
  refine j_aload0 67 dX11_move_66 rfl ?_
  refine j_iload1 68 dX11_move_67 rfl ?_
  refine j_iload2 69 dX11_move_68 rfl ?_
  refine j_iload5 71 dX11_move_69 rfl ?_
  refine j_vi3f 74 dX11_move_71 rfl rfl cl_X11_285 rfl rfl (c_stand m 0 (by decide) _ _) ?_
  refine j_if_eq_bz 89 77 dX11_move_74 rfl rfl (fun h74 => absurd c4 h74) (fun h74 => ?_)
  refine j_aload0 78 dX11_move_77 rfl ?_
  refine j_iload3 79 dX11_move_78 rfl ?_
  refine j_iload4 81 dX11_move_79 rfl ?_
  refine j_iload5 83 dX11_move_81 rfl ?_
  refine j_vi3f 86 dX11_move_83 rfl rfl cl_X11_285 rfl rfl (c_stand m 1 (by decide) _ _) ?_
  refine j_if_ne_bz 96 89 dX11_move_86 rfl rfl (fun h86 => ?_) (fun h86 => absurd c5 h86)
  refine j_aload0 97 dX11_move_96 rfl ?_
  refine j_getR 100 dX11_move_97 rfl fl_X11_64 rfl rfl ?_
  refine j_iload1 101 dX11_move_100 rfl ?_
  refine j_aald 102 0 rfl (by decide) dX11_move_101 rfl (by decide) ?_
  refine j_ref (b := 61) (by decide) ?_
  refine j_iload2 103 dX11_move_102 rfl ?_
  refine j_aload0 104 dX11_move_103 rfl ?_
  refine j_getR 107 dX11_move_104 rfl fl_X11_64 rfl rfl ?_
  refine j_iload3 108 dX11_move_107 rfl ?_
  refine j_aald 109 1 rfl (by decide) dX11_move_108 rfl (by decide) ?_
  refine j_ref (b := 62) (by decide) ?_
  refine j_iload4 111 dX11_move_109 rfl ?_
  refine j_iload5 113 dX11_move_111 rfl ?_
  refine j_copy 116 i j n rfl rfl rfl (show i + n ≤ 40 from hi) (show j + n ≤ 40 from hj) dX11_move_113 rfl rfl ac_X11_291 rfl rfl rfl ?_
  refine j_iload5 118 dX11_move_116 rfl ?_
  refine j_iret dX11_move_118 rfl ?_
  exact ⟨rfl, rfl⟩
set_option maxRecDepth 100000 in
theorem o_move_0_2 (m : Mem) (i j n : Nat) (c1 : ¬ m 65 0 = 0) (c2 : ¬ m 65 2 = 0) (c3 : m 65 0 = m 65 2) (hi : i + n ≤ 40) (hj : j + n ≤ 40) (c4 : 0 ≤ nI n ∧ 0 ≤ nI i ∧ nI n ≤ m 66 0 ∧ nI i ≤ m 66 0 - nI n) (c5 : 0 ≤ nI n ∧ 0 ≤ nI j ∧ nI n ≤ m 66 2 ∧ nI j ≤ m 66 2 - nI n) : JM l g 2 mX11_move [rf g 0, .int (nI 0), .int (nI i), .int (nI 2), .int (nI j), .int (nI n)] m (RF (some (.int (nI n))) (cpy m 61 63 i j n)) := by
  refine JM_of (ls := [some (rf g 0), some (.int (nI 0)), some (.int (nI i)), some (.int (nI 2)), some (.int (nI j)), some (.int (nI n))]) pn_X11 rfl rfl ?_
  refine j_iload1 1 dX11_move_0 rfl ?_
  refine j_st1f 4 dX11_move_1 rfl rfl cl_X11_230 rfl (c_isSheet m _) ?_
  refine j_if_eq_bz 14 7 dX11_move_4 rfl rfl (fun h4 => absurd (by decide) h4) (fun h4 => ?_)
  refine j_iload3 8 dX11_move_7 rfl ?_
  refine j_st1f 11 dX11_move_8 rfl rfl cl_X11_230 rfl (c_isSheet m _) ?_
  refine j_if_ne_bz 21 14 dX11_move_11 rfl rfl (fun h11 => ?_) (fun h11 => absurd (by decide) h11)
  refine j_aload0 22 dX11_move_21 rfl ?_
  refine j_iload1 23 dX11_move_22 rfl ?_
  refine j_vi1f 26 dX11_move_23 rfl rfl cl_X11_233 rfl rfl (c_isMissing m 0 (by decide)) ?_
  refine j_if_ne_bz 37 29 dX11_move_26 rfl rfl (fun h26 => absurd h26 c1) (fun h26 => ?_)
  refine j_aload0 30 dX11_move_29 rfl ?_
  refine j_iload3 31 dX11_move_30 rfl ?_
  refine j_vi1f 34 dX11_move_31 rfl rfl cl_X11_233 rfl rfl (c_isMissing m 2 (by decide)) ?_
  refine j_if_eq_bz 44 37 dX11_move_34 rfl rfl (fun h34 => ?_) (fun h34 => absurd h34 c2)
  refine j_aload0 45 dX11_move_44 rfl ?_
  refine j_getR 48 dX11_move_45 rfl fl_X11_67 rfl rfl ?_
  refine j_iload1 49 dX11_move_48 rfl ?_
  refine j_iald 50 0 rfl (by decide) dX11_move_49 rfl rfl ?_
  refine j_aload0 51 dX11_move_50 rfl ?_
  refine j_getR 54 dX11_move_51 rfl fl_X11_67 rfl rfl ?_
  refine j_iload3 55 dX11_move_54 rfl ?_
  refine j_iald 56 2 rfl (by decide) dX11_move_55 rfl rfl ?_
  refine j_cmp_eq 66 59 dX11_move_56 rfl rfl (fun h56 => ?_) (fun h56 => absurd c3 h56)
  refine j_aload0 67 dX11_move_66 rfl ?_
  refine j_iload1 68 dX11_move_67 rfl ?_
  refine j_iload2 69 dX11_move_68 rfl ?_
  refine j_iload5 71 dX11_move_69 rfl ?_
  refine j_vi3f 74 dX11_move_71 rfl rfl cl_X11_285 rfl rfl (c_stand m 0 (by decide) _ _) ?_
  refine j_if_eq_bz 89 77 dX11_move_74 rfl rfl (fun h74 => absurd c4 h74) (fun h74 => ?_)
  refine j_aload0 78 dX11_move_77 rfl ?_
  refine j_iload3 79 dX11_move_78 rfl ?_
  refine j_iload4 81 dX11_move_79 rfl ?_
  refine j_iload5 83 dX11_move_81 rfl ?_
  refine j_vi3f 86 dX11_move_83 rfl rfl cl_X11_285 rfl rfl (c_stand m 2 (by decide) _ _) ?_
  refine j_if_ne_bz 96 89 dX11_move_86 rfl rfl (fun h86 => ?_) (fun h86 => absurd c5 h86)
  refine j_aload0 97 dX11_move_96 rfl ?_
  refine j_getR 100 dX11_move_97 rfl fl_X11_64 rfl rfl ?_
  refine j_iload1 101 dX11_move_100 rfl ?_
  refine j_aald 102 0 rfl (by decide) dX11_move_101 rfl (by decide) ?_
  refine j_ref (b := 61) (by decide) ?_
  refine j_iload2 103 dX11_move_102 rfl ?_
  refine j_aload0 104 dX11_move_103 rfl ?_
  refine j_getR 107 dX11_move_104 rfl fl_X11_64 rfl rfl ?_
  refine j_iload3 108 dX11_move_107 rfl ?_
  refine j_aald 109 2 rfl (by decide) dX11_move_108 rfl (by decide) ?_
  refine j_ref (b := 63) (by decide) ?_
  refine j_iload4 111 dX11_move_109 rfl ?_
  refine j_iload5 113 dX11_move_111 rfl ?_
  refine j_copy 116 i j n rfl rfl rfl (show i + n ≤ 40 from hi) (show j + n ≤ 40 from hj) dX11_move_113 rfl rfl ac_X11_291 rfl rfl rfl ?_
  refine j_iload5 118 dX11_move_116 rfl ?_
  refine j_iret dX11_move_118 rfl ?_
  exact ⟨rfl, rfl⟩
set_option maxRecDepth 100000 in
theorem o_move_0_3 (m : Mem) (i j n : Nat) (c1 : ¬ m 65 0 = 0) (c2 : ¬ m 65 3 = 0) (c3 : m 65 0 = m 65 3) (hi : i + n ≤ 40) (hj : j + n ≤ 40) (c4 : 0 ≤ nI n ∧ 0 ≤ nI i ∧ nI n ≤ m 66 0 ∧ nI i ≤ m 66 0 - nI n) (c5 : 0 ≤ nI n ∧ 0 ≤ nI j ∧ nI n ≤ m 66 3 ∧ nI j ≤ m 66 3 - nI n) : JM l g 2 mX11_move [rf g 0, .int (nI 0), .int (nI i), .int (nI 3), .int (nI j), .int (nI n)] m (RF (some (.int (nI n))) (cpy m 61 64 i j n)) := by
  refine JM_of (ls := [some (rf g 0), some (.int (nI 0)), some (.int (nI i)), some (.int (nI 3)), some (.int (nI j)), some (.int (nI n))]) pn_X11 rfl rfl ?_
  refine j_iload1 1 dX11_move_0 rfl ?_
  refine j_st1f 4 dX11_move_1 rfl rfl cl_X11_230 rfl (c_isSheet m _) ?_
  refine j_if_eq_bz 14 7 dX11_move_4 rfl rfl (fun h4 => absurd (by decide) h4) (fun h4 => ?_)
  refine j_iload3 8 dX11_move_7 rfl ?_
  refine j_st1f 11 dX11_move_8 rfl rfl cl_X11_230 rfl (c_isSheet m _) ?_
  refine j_if_ne_bz 21 14 dX11_move_11 rfl rfl (fun h11 => ?_) (fun h11 => absurd (by decide) h11)
  refine j_aload0 22 dX11_move_21 rfl ?_
  refine j_iload1 23 dX11_move_22 rfl ?_
  refine j_vi1f 26 dX11_move_23 rfl rfl cl_X11_233 rfl rfl (c_isMissing m 0 (by decide)) ?_
  refine j_if_ne_bz 37 29 dX11_move_26 rfl rfl (fun h26 => absurd h26 c1) (fun h26 => ?_)
  refine j_aload0 30 dX11_move_29 rfl ?_
  refine j_iload3 31 dX11_move_30 rfl ?_
  refine j_vi1f 34 dX11_move_31 rfl rfl cl_X11_233 rfl rfl (c_isMissing m 3 (by decide)) ?_
  refine j_if_eq_bz 44 37 dX11_move_34 rfl rfl (fun h34 => ?_) (fun h34 => absurd h34 c2)
  refine j_aload0 45 dX11_move_44 rfl ?_
  refine j_getR 48 dX11_move_45 rfl fl_X11_67 rfl rfl ?_
  refine j_iload1 49 dX11_move_48 rfl ?_
  refine j_iald 50 0 rfl (by decide) dX11_move_49 rfl rfl ?_
  refine j_aload0 51 dX11_move_50 rfl ?_
  refine j_getR 54 dX11_move_51 rfl fl_X11_67 rfl rfl ?_
  refine j_iload3 55 dX11_move_54 rfl ?_
  refine j_iald 56 3 rfl (by decide) dX11_move_55 rfl rfl ?_
  refine j_cmp_eq 66 59 dX11_move_56 rfl rfl (fun h56 => ?_) (fun h56 => absurd c3 h56)
  refine j_aload0 67 dX11_move_66 rfl ?_
  refine j_iload1 68 dX11_move_67 rfl ?_
  refine j_iload2 69 dX11_move_68 rfl ?_
  refine j_iload5 71 dX11_move_69 rfl ?_
  refine j_vi3f 74 dX11_move_71 rfl rfl cl_X11_285 rfl rfl (c_stand m 0 (by decide) _ _) ?_
  refine j_if_eq_bz 89 77 dX11_move_74 rfl rfl (fun h74 => absurd c4 h74) (fun h74 => ?_)
  refine j_aload0 78 dX11_move_77 rfl ?_
  refine j_iload3 79 dX11_move_78 rfl ?_
  refine j_iload4 81 dX11_move_79 rfl ?_
  refine j_iload5 83 dX11_move_81 rfl ?_
  refine j_vi3f 86 dX11_move_83 rfl rfl cl_X11_285 rfl rfl (c_stand m 3 (by decide) _ _) ?_
  refine j_if_ne_bz 96 89 dX11_move_86 rfl rfl (fun h86 => ?_) (fun h86 => absurd c5 h86)
  refine j_aload0 97 dX11_move_96 rfl ?_
  refine j_getR 100 dX11_move_97 rfl fl_X11_64 rfl rfl ?_
  refine j_iload1 101 dX11_move_100 rfl ?_
  refine j_aald 102 0 rfl (by decide) dX11_move_101 rfl (by decide) ?_
  refine j_ref (b := 61) (by decide) ?_
  refine j_iload2 103 dX11_move_102 rfl ?_
  refine j_aload0 104 dX11_move_103 rfl ?_
  refine j_getR 107 dX11_move_104 rfl fl_X11_64 rfl rfl ?_
  refine j_iload3 108 dX11_move_107 rfl ?_
  refine j_aald 109 3 rfl (by decide) dX11_move_108 rfl (by decide) ?_
  refine j_ref (b := 64) (by decide) ?_
  refine j_iload4 111 dX11_move_109 rfl ?_
  refine j_iload5 113 dX11_move_111 rfl ?_
  refine j_copy 116 i j n rfl rfl rfl (show i + n ≤ 40 from hi) (show j + n ≤ 40 from hj) dX11_move_113 rfl rfl ac_X11_291 rfl rfl rfl ?_
  refine j_iload5 118 dX11_move_116 rfl ?_
  refine j_iret dX11_move_118 rfl ?_
  exact ⟨rfl, rfl⟩
set_option maxRecDepth 100000 in
theorem o_move_1_0 (m : Mem) (i j n : Nat) (c1 : ¬ m 65 1 = 0) (c2 : ¬ m 65 0 = 0) (c3 : m 65 1 = m 65 0) (hi : i + n ≤ 40) (hj : j + n ≤ 40) (c4 : 0 ≤ nI n ∧ 0 ≤ nI i ∧ nI n ≤ m 66 1 ∧ nI i ≤ m 66 1 - nI n) (c5 : 0 ≤ nI n ∧ 0 ≤ nI j ∧ nI n ≤ m 66 0 ∧ nI j ≤ m 66 0 - nI n) : JM l g 2 mX11_move [rf g 0, .int (nI 1), .int (nI i), .int (nI 0), .int (nI j), .int (nI n)] m (RF (some (.int (nI n))) (cpy m 62 61 i j n)) := by
  refine JM_of (ls := [some (rf g 0), some (.int (nI 1)), some (.int (nI i)), some (.int (nI 0)), some (.int (nI j)), some (.int (nI n))]) pn_X11 rfl rfl ?_
  refine j_iload1 1 dX11_move_0 rfl ?_
  refine j_st1f 4 dX11_move_1 rfl rfl cl_X11_230 rfl (c_isSheet m _) ?_
  refine j_if_eq_bz 14 7 dX11_move_4 rfl rfl (fun h4 => absurd (by decide) h4) (fun h4 => ?_)
  refine j_iload3 8 dX11_move_7 rfl ?_
  refine j_st1f 11 dX11_move_8 rfl rfl cl_X11_230 rfl (c_isSheet m _) ?_
  refine j_if_ne_bz 21 14 dX11_move_11 rfl rfl (fun h11 => ?_) (fun h11 => absurd (by decide) h11)
  refine j_aload0 22 dX11_move_21 rfl ?_
  refine j_iload1 23 dX11_move_22 rfl ?_
  refine j_vi1f 26 dX11_move_23 rfl rfl cl_X11_233 rfl rfl (c_isMissing m 1 (by decide)) ?_
  refine j_if_ne_bz 37 29 dX11_move_26 rfl rfl (fun h26 => absurd h26 c1) (fun h26 => ?_)
  refine j_aload0 30 dX11_move_29 rfl ?_
  refine j_iload3 31 dX11_move_30 rfl ?_
  refine j_vi1f 34 dX11_move_31 rfl rfl cl_X11_233 rfl rfl (c_isMissing m 0 (by decide)) ?_
  refine j_if_eq_bz 44 37 dX11_move_34 rfl rfl (fun h34 => ?_) (fun h34 => absurd h34 c2)
  refine j_aload0 45 dX11_move_44 rfl ?_
  refine j_getR 48 dX11_move_45 rfl fl_X11_67 rfl rfl ?_
  refine j_iload1 49 dX11_move_48 rfl ?_
  refine j_iald 50 1 rfl (by decide) dX11_move_49 rfl rfl ?_
  refine j_aload0 51 dX11_move_50 rfl ?_
  refine j_getR 54 dX11_move_51 rfl fl_X11_67 rfl rfl ?_
  refine j_iload3 55 dX11_move_54 rfl ?_
  refine j_iald 56 0 rfl (by decide) dX11_move_55 rfl rfl ?_
  refine j_cmp_eq 66 59 dX11_move_56 rfl rfl (fun h56 => ?_) (fun h56 => absurd c3 h56)
  refine j_aload0 67 dX11_move_66 rfl ?_
  refine j_iload1 68 dX11_move_67 rfl ?_
  refine j_iload2 69 dX11_move_68 rfl ?_
  refine j_iload5 71 dX11_move_69 rfl ?_
  refine j_vi3f 74 dX11_move_71 rfl rfl cl_X11_285 rfl rfl (c_stand m 1 (by decide) _ _) ?_
  refine j_if_eq_bz 89 77 dX11_move_74 rfl rfl (fun h74 => absurd c4 h74) (fun h74 => ?_)
  refine j_aload0 78 dX11_move_77 rfl ?_
  refine j_iload3 79 dX11_move_78 rfl ?_
  refine j_iload4 81 dX11_move_79 rfl ?_
  refine j_iload5 83 dX11_move_81 rfl ?_
  refine j_vi3f 86 dX11_move_83 rfl rfl cl_X11_285 rfl rfl (c_stand m 0 (by decide) _ _) ?_
  refine j_if_ne_bz 96 89 dX11_move_86 rfl rfl (fun h86 => ?_) (fun h86 => absurd c5 h86)
  refine j_aload0 97 dX11_move_96 rfl ?_
  refine j_getR 100 dX11_move_97 rfl fl_X11_64 rfl rfl ?_
  refine j_iload1 101 dX11_move_100 rfl ?_
  refine j_aald 102 1 rfl (by decide) dX11_move_101 rfl (by decide) ?_
  refine j_ref (b := 62) (by decide) ?_
  refine j_iload2 103 dX11_move_102 rfl ?_
  refine j_aload0 104 dX11_move_103 rfl ?_
  refine j_getR 107 dX11_move_104 rfl fl_X11_64 rfl rfl ?_
  refine j_iload3 108 dX11_move_107 rfl ?_
  refine j_aald 109 0 rfl (by decide) dX11_move_108 rfl (by decide) ?_
  refine j_ref (b := 61) (by decide) ?_
  refine j_iload4 111 dX11_move_109 rfl ?_
  refine j_iload5 113 dX11_move_111 rfl ?_
  refine j_copy 116 i j n rfl rfl rfl (show i + n ≤ 40 from hi) (show j + n ≤ 40 from hj) dX11_move_113 rfl rfl ac_X11_291 rfl rfl rfl ?_
  refine j_iload5 118 dX11_move_116 rfl ?_
  refine j_iret dX11_move_118 rfl ?_
  exact ⟨rfl, rfl⟩
set_option maxRecDepth 100000 in
theorem o_move_1_1 (m : Mem) (i j n : Nat) (c1 : ¬ m 65 1 = 0) (c2 : ¬ m 65 1 = 0) (c3 : m 65 1 = m 65 1) (hi : i + n ≤ 40) (hj : j + n ≤ 40) (c4 : 0 ≤ nI n ∧ 0 ≤ nI i ∧ nI n ≤ m 66 1 ∧ nI i ≤ m 66 1 - nI n) (c5 : 0 ≤ nI n ∧ 0 ≤ nI j ∧ nI n ≤ m 66 1 ∧ nI j ≤ m 66 1 - nI n) : JM l g 2 mX11_move [rf g 0, .int (nI 1), .int (nI i), .int (nI 1), .int (nI j), .int (nI n)] m (RF (some (.int (nI n))) (cpy m 62 62 i j n)) := by
  refine JM_of (ls := [some (rf g 0), some (.int (nI 1)), some (.int (nI i)), some (.int (nI 1)), some (.int (nI j)), some (.int (nI n))]) pn_X11 rfl rfl ?_
  refine j_iload1 1 dX11_move_0 rfl ?_
  refine j_st1f 4 dX11_move_1 rfl rfl cl_X11_230 rfl (c_isSheet m _) ?_
  refine j_if_eq_bz 14 7 dX11_move_4 rfl rfl (fun h4 => absurd (by decide) h4) (fun h4 => ?_)
  refine j_iload3 8 dX11_move_7 rfl ?_
  refine j_st1f 11 dX11_move_8 rfl rfl cl_X11_230 rfl (c_isSheet m _) ?_
  refine j_if_ne_bz 21 14 dX11_move_11 rfl rfl (fun h11 => ?_) (fun h11 => absurd (by decide) h11)
  refine j_aload0 22 dX11_move_21 rfl ?_
  refine j_iload1 23 dX11_move_22 rfl ?_
  refine j_vi1f 26 dX11_move_23 rfl rfl cl_X11_233 rfl rfl (c_isMissing m 1 (by decide)) ?_
  refine j_if_ne_bz 37 29 dX11_move_26 rfl rfl (fun h26 => absurd h26 c1) (fun h26 => ?_)
  refine j_aload0 30 dX11_move_29 rfl ?_
  refine j_iload3 31 dX11_move_30 rfl ?_
  refine j_vi1f 34 dX11_move_31 rfl rfl cl_X11_233 rfl rfl (c_isMissing m 1 (by decide)) ?_
  refine j_if_eq_bz 44 37 dX11_move_34 rfl rfl (fun h34 => ?_) (fun h34 => absurd h34 c2)
  refine j_aload0 45 dX11_move_44 rfl ?_
  refine j_getR 48 dX11_move_45 rfl fl_X11_67 rfl rfl ?_
  refine j_iload1 49 dX11_move_48 rfl ?_
  refine j_iald 50 1 rfl (by decide) dX11_move_49 rfl rfl ?_
  refine j_aload0 51 dX11_move_50 rfl ?_
  refine j_getR 54 dX11_move_51 rfl fl_X11_67 rfl rfl ?_
  refine j_iload3 55 dX11_move_54 rfl ?_
  refine j_iald 56 1 rfl (by decide) dX11_move_55 rfl rfl ?_
  refine j_cmp_eq 66 59 dX11_move_56 rfl rfl (fun h56 => ?_) (fun h56 => absurd c3 h56)
  refine j_aload0 67 dX11_move_66 rfl ?_
  refine j_iload1 68 dX11_move_67 rfl ?_
  refine j_iload2 69 dX11_move_68 rfl ?_
  refine j_iload5 71 dX11_move_69 rfl ?_
  refine j_vi3f 74 dX11_move_71 rfl rfl cl_X11_285 rfl rfl (c_stand m 1 (by decide) _ _) ?_
  refine j_if_eq_bz 89 77 dX11_move_74 rfl rfl (fun h74 => absurd c4 h74) (fun h74 => ?_)
  refine j_aload0 78 dX11_move_77 rfl ?_
  refine j_iload3 79 dX11_move_78 rfl ?_
  refine j_iload4 81 dX11_move_79 rfl ?_
  refine j_iload5 83 dX11_move_81 rfl ?_
  refine j_vi3f 86 dX11_move_83 rfl rfl cl_X11_285 rfl rfl (c_stand m 1 (by decide) _ _) ?_
  refine j_if_ne_bz 96 89 dX11_move_86 rfl rfl (fun h86 => ?_) (fun h86 => absurd c5 h86)
  refine j_aload0 97 dX11_move_96 rfl ?_
  refine j_getR 100 dX11_move_97 rfl fl_X11_64 rfl rfl ?_
  refine j_iload1 101 dX11_move_100 rfl ?_
  refine j_aald 102 1 rfl (by decide) dX11_move_101 rfl (by decide) ?_
  refine j_ref (b := 62) (by decide) ?_
  refine j_iload2 103 dX11_move_102 rfl ?_
  refine j_aload0 104 dX11_move_103 rfl ?_
  refine j_getR 107 dX11_move_104 rfl fl_X11_64 rfl rfl ?_
  refine j_iload3 108 dX11_move_107 rfl ?_
  refine j_aald 109 1 rfl (by decide) dX11_move_108 rfl (by decide) ?_
  refine j_ref (b := 62) (by decide) ?_
  refine j_iload4 111 dX11_move_109 rfl ?_
  refine j_iload5 113 dX11_move_111 rfl ?_
  refine j_copy 116 i j n rfl rfl rfl (show i + n ≤ 40 from hi) (show j + n ≤ 40 from hj) dX11_move_113 rfl rfl ac_X11_291 rfl rfl rfl ?_
  refine j_iload5 118 dX11_move_116 rfl ?_
  refine j_iret dX11_move_118 rfl ?_
  exact ⟨rfl, rfl⟩
set_option maxRecDepth 100000 in
theorem o_move_1_2 (m : Mem) (i j n : Nat) (c1 : ¬ m 65 1 = 0) (c2 : ¬ m 65 2 = 0) (c3 : m 65 1 = m 65 2) (hi : i + n ≤ 40) (hj : j + n ≤ 40) (c4 : 0 ≤ nI n ∧ 0 ≤ nI i ∧ nI n ≤ m 66 1 ∧ nI i ≤ m 66 1 - nI n) (c5 : 0 ≤ nI n ∧ 0 ≤ nI j ∧ nI n ≤ m 66 2 ∧ nI j ≤ m 66 2 - nI n) : JM l g 2 mX11_move [rf g 0, .int (nI 1), .int (nI i), .int (nI 2), .int (nI j), .int (nI n)] m (RF (some (.int (nI n))) (cpy m 62 63 i j n)) := by
  refine JM_of (ls := [some (rf g 0), some (.int (nI 1)), some (.int (nI i)), some (.int (nI 2)), some (.int (nI j)), some (.int (nI n))]) pn_X11 rfl rfl ?_
  refine j_iload1 1 dX11_move_0 rfl ?_
  refine j_st1f 4 dX11_move_1 rfl rfl cl_X11_230 rfl (c_isSheet m _) ?_
  refine j_if_eq_bz 14 7 dX11_move_4 rfl rfl (fun h4 => absurd (by decide) h4) (fun h4 => ?_)
  refine j_iload3 8 dX11_move_7 rfl ?_
  refine j_st1f 11 dX11_move_8 rfl rfl cl_X11_230 rfl (c_isSheet m _) ?_
  refine j_if_ne_bz 21 14 dX11_move_11 rfl rfl (fun h11 => ?_) (fun h11 => absurd (by decide) h11)
  refine j_aload0 22 dX11_move_21 rfl ?_
  refine j_iload1 23 dX11_move_22 rfl ?_
  refine j_vi1f 26 dX11_move_23 rfl rfl cl_X11_233 rfl rfl (c_isMissing m 1 (by decide)) ?_
  refine j_if_ne_bz 37 29 dX11_move_26 rfl rfl (fun h26 => absurd h26 c1) (fun h26 => ?_)
  refine j_aload0 30 dX11_move_29 rfl ?_
  refine j_iload3 31 dX11_move_30 rfl ?_
  refine j_vi1f 34 dX11_move_31 rfl rfl cl_X11_233 rfl rfl (c_isMissing m 2 (by decide)) ?_
  refine j_if_eq_bz 44 37 dX11_move_34 rfl rfl (fun h34 => ?_) (fun h34 => absurd h34 c2)
  refine j_aload0 45 dX11_move_44 rfl ?_
  refine j_getR 48 dX11_move_45 rfl fl_X11_67 rfl rfl ?_
  refine j_iload1 49 dX11_move_48 rfl ?_
  refine j_iald 50 1 rfl (by decide) dX11_move_49 rfl rfl ?_
  refine j_aload0 51 dX11_move_50 rfl ?_
  refine j_getR 54 dX11_move_51 rfl fl_X11_67 rfl rfl ?_
  refine j_iload3 55 dX11_move_54 rfl ?_
  refine j_iald 56 2 rfl (by decide) dX11_move_55 rfl rfl ?_
  refine j_cmp_eq 66 59 dX11_move_56 rfl rfl (fun h56 => ?_) (fun h56 => absurd c3 h56)
  refine j_aload0 67 dX11_move_66 rfl ?_
  refine j_iload1 68 dX11_move_67 rfl ?_
  refine j_iload2 69 dX11_move_68 rfl ?_
  refine j_iload5 71 dX11_move_69 rfl ?_
  refine j_vi3f 74 dX11_move_71 rfl rfl cl_X11_285 rfl rfl (c_stand m 1 (by decide) _ _) ?_
  refine j_if_eq_bz 89 77 dX11_move_74 rfl rfl (fun h74 => absurd c4 h74) (fun h74 => ?_)
  refine j_aload0 78 dX11_move_77 rfl ?_
  refine j_iload3 79 dX11_move_78 rfl ?_
  refine j_iload4 81 dX11_move_79 rfl ?_
  refine j_iload5 83 dX11_move_81 rfl ?_
  refine j_vi3f 86 dX11_move_83 rfl rfl cl_X11_285 rfl rfl (c_stand m 2 (by decide) _ _) ?_
  refine j_if_ne_bz 96 89 dX11_move_86 rfl rfl (fun h86 => ?_) (fun h86 => absurd c5 h86)
  refine j_aload0 97 dX11_move_96 rfl ?_
  refine j_getR 100 dX11_move_97 rfl fl_X11_64 rfl rfl ?_
  refine j_iload1 101 dX11_move_100 rfl ?_
  refine j_aald 102 1 rfl (by decide) dX11_move_101 rfl (by decide) ?_
  refine j_ref (b := 62) (by decide) ?_
  refine j_iload2 103 dX11_move_102 rfl ?_
  refine j_aload0 104 dX11_move_103 rfl ?_
  refine j_getR 107 dX11_move_104 rfl fl_X11_64 rfl rfl ?_
  refine j_iload3 108 dX11_move_107 rfl ?_
  refine j_aald 109 2 rfl (by decide) dX11_move_108 rfl (by decide) ?_
  refine j_ref (b := 63) (by decide) ?_
  refine j_iload4 111 dX11_move_109 rfl ?_
  refine j_iload5 113 dX11_move_111 rfl ?_
  refine j_copy 116 i j n rfl rfl rfl (show i + n ≤ 40 from hi) (show j + n ≤ 40 from hj) dX11_move_113 rfl rfl ac_X11_291 rfl rfl rfl ?_
  refine j_iload5 118 dX11_move_116 rfl ?_
  refine j_iret dX11_move_118 rfl ?_
  exact ⟨rfl, rfl⟩
set_option maxRecDepth 100000 in
theorem o_move_1_3 (m : Mem) (i j n : Nat) (c1 : ¬ m 65 1 = 0) (c2 : ¬ m 65 3 = 0) (c3 : m 65 1 = m 65 3) (hi : i + n ≤ 40) (hj : j + n ≤ 40) (c4 : 0 ≤ nI n ∧ 0 ≤ nI i ∧ nI n ≤ m 66 1 ∧ nI i ≤ m 66 1 - nI n) (c5 : 0 ≤ nI n ∧ 0 ≤ nI j ∧ nI n ≤ m 66 3 ∧ nI j ≤ m 66 3 - nI n) : JM l g 2 mX11_move [rf g 0, .int (nI 1), .int (nI i), .int (nI 3), .int (nI j), .int (nI n)] m (RF (some (.int (nI n))) (cpy m 62 64 i j n)) := by
  refine JM_of (ls := [some (rf g 0), some (.int (nI 1)), some (.int (nI i)), some (.int (nI 3)), some (.int (nI j)), some (.int (nI n))]) pn_X11 rfl rfl ?_
  refine j_iload1 1 dX11_move_0 rfl ?_
  refine j_st1f 4 dX11_move_1 rfl rfl cl_X11_230 rfl (c_isSheet m _) ?_
  refine j_if_eq_bz 14 7 dX11_move_4 rfl rfl (fun h4 => absurd (by decide) h4) (fun h4 => ?_)
  refine j_iload3 8 dX11_move_7 rfl ?_
  refine j_st1f 11 dX11_move_8 rfl rfl cl_X11_230 rfl (c_isSheet m _) ?_
  refine j_if_ne_bz 21 14 dX11_move_11 rfl rfl (fun h11 => ?_) (fun h11 => absurd (by decide) h11)
  refine j_aload0 22 dX11_move_21 rfl ?_
  refine j_iload1 23 dX11_move_22 rfl ?_
  refine j_vi1f 26 dX11_move_23 rfl rfl cl_X11_233 rfl rfl (c_isMissing m 1 (by decide)) ?_
  refine j_if_ne_bz 37 29 dX11_move_26 rfl rfl (fun h26 => absurd h26 c1) (fun h26 => ?_)
  refine j_aload0 30 dX11_move_29 rfl ?_
  refine j_iload3 31 dX11_move_30 rfl ?_
  refine j_vi1f 34 dX11_move_31 rfl rfl cl_X11_233 rfl rfl (c_isMissing m 3 (by decide)) ?_
  refine j_if_eq_bz 44 37 dX11_move_34 rfl rfl (fun h34 => ?_) (fun h34 => absurd h34 c2)
  refine j_aload0 45 dX11_move_44 rfl ?_
  refine j_getR 48 dX11_move_45 rfl fl_X11_67 rfl rfl ?_
  refine j_iload1 49 dX11_move_48 rfl ?_
  refine j_iald 50 1 rfl (by decide) dX11_move_49 rfl rfl ?_
  refine j_aload0 51 dX11_move_50 rfl ?_
  refine j_getR 54 dX11_move_51 rfl fl_X11_67 rfl rfl ?_
  refine j_iload3 55 dX11_move_54 rfl ?_
  refine j_iald 56 3 rfl (by decide) dX11_move_55 rfl rfl ?_
  refine j_cmp_eq 66 59 dX11_move_56 rfl rfl (fun h56 => ?_) (fun h56 => absurd c3 h56)
  refine j_aload0 67 dX11_move_66 rfl ?_
  refine j_iload1 68 dX11_move_67 rfl ?_
  refine j_iload2 69 dX11_move_68 rfl ?_
  refine j_iload5 71 dX11_move_69 rfl ?_
  refine j_vi3f 74 dX11_move_71 rfl rfl cl_X11_285 rfl rfl (c_stand m 1 (by decide) _ _) ?_
  refine j_if_eq_bz 89 77 dX11_move_74 rfl rfl (fun h74 => absurd c4 h74) (fun h74 => ?_)
  refine j_aload0 78 dX11_move_77 rfl ?_
  refine j_iload3 79 dX11_move_78 rfl ?_
  refine j_iload4 81 dX11_move_79 rfl ?_
  refine j_iload5 83 dX11_move_81 rfl ?_
  refine j_vi3f 86 dX11_move_83 rfl rfl cl_X11_285 rfl rfl (c_stand m 3 (by decide) _ _) ?_
  refine j_if_ne_bz 96 89 dX11_move_86 rfl rfl (fun h86 => ?_) (fun h86 => absurd c5 h86)
  refine j_aload0 97 dX11_move_96 rfl ?_
  refine j_getR 100 dX11_move_97 rfl fl_X11_64 rfl rfl ?_
  refine j_iload1 101 dX11_move_100 rfl ?_
  refine j_aald 102 1 rfl (by decide) dX11_move_101 rfl (by decide) ?_
  refine j_ref (b := 62) (by decide) ?_
  refine j_iload2 103 dX11_move_102 rfl ?_
  refine j_aload0 104 dX11_move_103 rfl ?_
  refine j_getR 107 dX11_move_104 rfl fl_X11_64 rfl rfl ?_
  refine j_iload3 108 dX11_move_107 rfl ?_
  refine j_aald 109 3 rfl (by decide) dX11_move_108 rfl (by decide) ?_
  refine j_ref (b := 64) (by decide) ?_
  refine j_iload4 111 dX11_move_109 rfl ?_
  refine j_iload5 113 dX11_move_111 rfl ?_
  refine j_copy 116 i j n rfl rfl rfl (show i + n ≤ 40 from hi) (show j + n ≤ 40 from hj) dX11_move_113 rfl rfl ac_X11_291 rfl rfl rfl ?_
  refine j_iload5 118 dX11_move_116 rfl ?_
  refine j_iret dX11_move_118 rfl ?_
  exact ⟨rfl, rfl⟩
set_option maxRecDepth 100000 in
theorem o_move_2_0 (m : Mem) (i j n : Nat) (c1 : ¬ m 65 2 = 0) (c2 : ¬ m 65 0 = 0) (c3 : m 65 2 = m 65 0) (hi : i + n ≤ 40) (hj : j + n ≤ 40) (c4 : 0 ≤ nI n ∧ 0 ≤ nI i ∧ nI n ≤ m 66 2 ∧ nI i ≤ m 66 2 - nI n) (c5 : 0 ≤ nI n ∧ 0 ≤ nI j ∧ nI n ≤ m 66 0 ∧ nI j ≤ m 66 0 - nI n) : JM l g 2 mX11_move [rf g 0, .int (nI 2), .int (nI i), .int (nI 0), .int (nI j), .int (nI n)] m (RF (some (.int (nI n))) (cpy m 63 61 i j n)) := by
  refine JM_of (ls := [some (rf g 0), some (.int (nI 2)), some (.int (nI i)), some (.int (nI 0)), some (.int (nI j)), some (.int (nI n))]) pn_X11 rfl rfl ?_
  refine j_iload1 1 dX11_move_0 rfl ?_
  refine j_st1f 4 dX11_move_1 rfl rfl cl_X11_230 rfl (c_isSheet m _) ?_
  refine j_if_eq_bz 14 7 dX11_move_4 rfl rfl (fun h4 => absurd (by decide) h4) (fun h4 => ?_)
  refine j_iload3 8 dX11_move_7 rfl ?_
  refine j_st1f 11 dX11_move_8 rfl rfl cl_X11_230 rfl (c_isSheet m _) ?_
  refine j_if_ne_bz 21 14 dX11_move_11 rfl rfl (fun h11 => ?_) (fun h11 => absurd (by decide) h11)
  refine j_aload0 22 dX11_move_21 rfl ?_
  refine j_iload1 23 dX11_move_22 rfl ?_
  refine j_vi1f 26 dX11_move_23 rfl rfl cl_X11_233 rfl rfl (c_isMissing m 2 (by decide)) ?_
  refine j_if_ne_bz 37 29 dX11_move_26 rfl rfl (fun h26 => absurd h26 c1) (fun h26 => ?_)
  refine j_aload0 30 dX11_move_29 rfl ?_
  refine j_iload3 31 dX11_move_30 rfl ?_
  refine j_vi1f 34 dX11_move_31 rfl rfl cl_X11_233 rfl rfl (c_isMissing m 0 (by decide)) ?_
  refine j_if_eq_bz 44 37 dX11_move_34 rfl rfl (fun h34 => ?_) (fun h34 => absurd h34 c2)
  refine j_aload0 45 dX11_move_44 rfl ?_
  refine j_getR 48 dX11_move_45 rfl fl_X11_67 rfl rfl ?_
  refine j_iload1 49 dX11_move_48 rfl ?_
  refine j_iald 50 2 rfl (by decide) dX11_move_49 rfl rfl ?_
  refine j_aload0 51 dX11_move_50 rfl ?_
  refine j_getR 54 dX11_move_51 rfl fl_X11_67 rfl rfl ?_
  refine j_iload3 55 dX11_move_54 rfl ?_
  refine j_iald 56 0 rfl (by decide) dX11_move_55 rfl rfl ?_
  refine j_cmp_eq 66 59 dX11_move_56 rfl rfl (fun h56 => ?_) (fun h56 => absurd c3 h56)
  refine j_aload0 67 dX11_move_66 rfl ?_
  refine j_iload1 68 dX11_move_67 rfl ?_
  refine j_iload2 69 dX11_move_68 rfl ?_
  refine j_iload5 71 dX11_move_69 rfl ?_
  refine j_vi3f 74 dX11_move_71 rfl rfl cl_X11_285 rfl rfl (c_stand m 2 (by decide) _ _) ?_
  refine j_if_eq_bz 89 77 dX11_move_74 rfl rfl (fun h74 => absurd c4 h74) (fun h74 => ?_)
  refine j_aload0 78 dX11_move_77 rfl ?_
  refine j_iload3 79 dX11_move_78 rfl ?_
  refine j_iload4 81 dX11_move_79 rfl ?_
  refine j_iload5 83 dX11_move_81 rfl ?_
  refine j_vi3f 86 dX11_move_83 rfl rfl cl_X11_285 rfl rfl (c_stand m 0 (by decide) _ _) ?_
  refine j_if_ne_bz 96 89 dX11_move_86 rfl rfl (fun h86 => ?_) (fun h86 => absurd c5 h86)
  refine j_aload0 97 dX11_move_96 rfl ?_
  refine j_getR 100 dX11_move_97 rfl fl_X11_64 rfl rfl ?_
  refine j_iload1 101 dX11_move_100 rfl ?_
  refine j_aald 102 2 rfl (by decide) dX11_move_101 rfl (by decide) ?_
  refine j_ref (b := 63) (by decide) ?_
  refine j_iload2 103 dX11_move_102 rfl ?_
  refine j_aload0 104 dX11_move_103 rfl ?_
  refine j_getR 107 dX11_move_104 rfl fl_X11_64 rfl rfl ?_
  refine j_iload3 108 dX11_move_107 rfl ?_
  refine j_aald 109 0 rfl (by decide) dX11_move_108 rfl (by decide) ?_
  refine j_ref (b := 61) (by decide) ?_
  refine j_iload4 111 dX11_move_109 rfl ?_
  refine j_iload5 113 dX11_move_111 rfl ?_
  refine j_copy 116 i j n rfl rfl rfl (show i + n ≤ 40 from hi) (show j + n ≤ 40 from hj) dX11_move_113 rfl rfl ac_X11_291 rfl rfl rfl ?_
  refine j_iload5 118 dX11_move_116 rfl ?_
  refine j_iret dX11_move_118 rfl ?_
  exact ⟨rfl, rfl⟩
set_option maxRecDepth 100000 in
theorem o_move_2_1 (m : Mem) (i j n : Nat) (c1 : ¬ m 65 2 = 0) (c2 : ¬ m 65 1 = 0) (c3 : m 65 2 = m 65 1) (hi : i + n ≤ 40) (hj : j + n ≤ 40) (c4 : 0 ≤ nI n ∧ 0 ≤ nI i ∧ nI n ≤ m 66 2 ∧ nI i ≤ m 66 2 - nI n) (c5 : 0 ≤ nI n ∧ 0 ≤ nI j ∧ nI n ≤ m 66 1 ∧ nI j ≤ m 66 1 - nI n) : JM l g 2 mX11_move [rf g 0, .int (nI 2), .int (nI i), .int (nI 1), .int (nI j), .int (nI n)] m (RF (some (.int (nI n))) (cpy m 63 62 i j n)) := by
  refine JM_of (ls := [some (rf g 0), some (.int (nI 2)), some (.int (nI i)), some (.int (nI 1)), some (.int (nI j)), some (.int (nI n))]) pn_X11 rfl rfl ?_
  refine j_iload1 1 dX11_move_0 rfl ?_
  refine j_st1f 4 dX11_move_1 rfl rfl cl_X11_230 rfl (c_isSheet m _) ?_
  refine j_if_eq_bz 14 7 dX11_move_4 rfl rfl (fun h4 => absurd (by decide) h4) (fun h4 => ?_)
  refine j_iload3 8 dX11_move_7 rfl ?_
  refine j_st1f 11 dX11_move_8 rfl rfl cl_X11_230 rfl (c_isSheet m _) ?_
  refine j_if_ne_bz 21 14 dX11_move_11 rfl rfl (fun h11 => ?_) (fun h11 => absurd (by decide) h11)
  refine j_aload0 22 dX11_move_21 rfl ?_
  refine j_iload1 23 dX11_move_22 rfl ?_
  refine j_vi1f 26 dX11_move_23 rfl rfl cl_X11_233 rfl rfl (c_isMissing m 2 (by decide)) ?_
  refine j_if_ne_bz 37 29 dX11_move_26 rfl rfl (fun h26 => absurd h26 c1) (fun h26 => ?_)
  refine j_aload0 30 dX11_move_29 rfl ?_
  refine j_iload3 31 dX11_move_30 rfl ?_
  refine j_vi1f 34 dX11_move_31 rfl rfl cl_X11_233 rfl rfl (c_isMissing m 1 (by decide)) ?_
  refine j_if_eq_bz 44 37 dX11_move_34 rfl rfl (fun h34 => ?_) (fun h34 => absurd h34 c2)
  refine j_aload0 45 dX11_move_44 rfl ?_
  refine j_getR 48 dX11_move_45 rfl fl_X11_67 rfl rfl ?_
  refine j_iload1 49 dX11_move_48 rfl ?_
  refine j_iald 50 2 rfl (by decide) dX11_move_49 rfl rfl ?_
  refine j_aload0 51 dX11_move_50 rfl ?_
  refine j_getR 54 dX11_move_51 rfl fl_X11_67 rfl rfl ?_
  refine j_iload3 55 dX11_move_54 rfl ?_
  refine j_iald 56 1 rfl (by decide) dX11_move_55 rfl rfl ?_
  refine j_cmp_eq 66 59 dX11_move_56 rfl rfl (fun h56 => ?_) (fun h56 => absurd c3 h56)
  refine j_aload0 67 dX11_move_66 rfl ?_
  refine j_iload1 68 dX11_move_67 rfl ?_
  refine j_iload2 69 dX11_move_68 rfl ?_
  refine j_iload5 71 dX11_move_69 rfl ?_
  refine j_vi3f 74 dX11_move_71 rfl rfl cl_X11_285 rfl rfl (c_stand m 2 (by decide) _ _) ?_
  refine j_if_eq_bz 89 77 dX11_move_74 rfl rfl (fun h74 => absurd c4 h74) (fun h74 => ?_)
  refine j_aload0 78 dX11_move_77 rfl ?_
  refine j_iload3 79 dX11_move_78 rfl ?_
  refine j_iload4 81 dX11_move_79 rfl ?_
  refine j_iload5 83 dX11_move_81 rfl ?_
  refine j_vi3f 86 dX11_move_83 rfl rfl cl_X11_285 rfl rfl (c_stand m 1 (by decide) _ _) ?_
  refine j_if_ne_bz 96 89 dX11_move_86 rfl rfl (fun h86 => ?_) (fun h86 => absurd c5 h86)
  refine j_aload0 97 dX11_move_96 rfl ?_
  refine j_getR 100 dX11_move_97 rfl fl_X11_64 rfl rfl ?_
  refine j_iload1 101 dX11_move_100 rfl ?_
  refine j_aald 102 2 rfl (by decide) dX11_move_101 rfl (by decide) ?_
  refine j_ref (b := 63) (by decide) ?_
  refine j_iload2 103 dX11_move_102 rfl ?_
  refine j_aload0 104 dX11_move_103 rfl ?_
  refine j_getR 107 dX11_move_104 rfl fl_X11_64 rfl rfl ?_
  refine j_iload3 108 dX11_move_107 rfl ?_
  refine j_aald 109 1 rfl (by decide) dX11_move_108 rfl (by decide) ?_
  refine j_ref (b := 62) (by decide) ?_
  refine j_iload4 111 dX11_move_109 rfl ?_
  refine j_iload5 113 dX11_move_111 rfl ?_
  refine j_copy 116 i j n rfl rfl rfl (show i + n ≤ 40 from hi) (show j + n ≤ 40 from hj) dX11_move_113 rfl rfl ac_X11_291 rfl rfl rfl ?_
  refine j_iload5 118 dX11_move_116 rfl ?_
  refine j_iret dX11_move_118 rfl ?_
  exact ⟨rfl, rfl⟩
set_option maxRecDepth 100000 in
theorem o_move_2_2 (m : Mem) (i j n : Nat) (c1 : ¬ m 65 2 = 0) (c2 : ¬ m 65 2 = 0) (c3 : m 65 2 = m 65 2) (hi : i + n ≤ 40) (hj : j + n ≤ 40) (c4 : 0 ≤ nI n ∧ 0 ≤ nI i ∧ nI n ≤ m 66 2 ∧ nI i ≤ m 66 2 - nI n) (c5 : 0 ≤ nI n ∧ 0 ≤ nI j ∧ nI n ≤ m 66 2 ∧ nI j ≤ m 66 2 - nI n) : JM l g 2 mX11_move [rf g 0, .int (nI 2), .int (nI i), .int (nI 2), .int (nI j), .int (nI n)] m (RF (some (.int (nI n))) (cpy m 63 63 i j n)) := by
  refine JM_of (ls := [some (rf g 0), some (.int (nI 2)), some (.int (nI i)), some (.int (nI 2)), some (.int (nI j)), some (.int (nI n))]) pn_X11 rfl rfl ?_
  refine j_iload1 1 dX11_move_0 rfl ?_
  refine j_st1f 4 dX11_move_1 rfl rfl cl_X11_230 rfl (c_isSheet m _) ?_
  refine j_if_eq_bz 14 7 dX11_move_4 rfl rfl (fun h4 => absurd (by decide) h4) (fun h4 => ?_)
  refine j_iload3 8 dX11_move_7 rfl ?_
  refine j_st1f 11 dX11_move_8 rfl rfl cl_X11_230 rfl (c_isSheet m _) ?_
  refine j_if_ne_bz 21 14 dX11_move_11 rfl rfl (fun h11 => ?_) (fun h11 => absurd (by decide) h11)
  refine j_aload0 22 dX11_move_21 rfl ?_
  refine j_iload1 23 dX11_move_22 rfl ?_
  refine j_vi1f 26 dX11_move_23 rfl rfl cl_X11_233 rfl rfl (c_isMissing m 2 (by decide)) ?_
  refine j_if_ne_bz 37 29 dX11_move_26 rfl rfl (fun h26 => absurd h26 c1) (fun h26 => ?_)
  refine j_aload0 30 dX11_move_29 rfl ?_
  refine j_iload3 31 dX11_move_30 rfl ?_
  refine j_vi1f 34 dX11_move_31 rfl rfl cl_X11_233 rfl rfl (c_isMissing m 2 (by decide)) ?_
  refine j_if_eq_bz 44 37 dX11_move_34 rfl rfl (fun h34 => ?_) (fun h34 => absurd h34 c2)
  refine j_aload0 45 dX11_move_44 rfl ?_
  refine j_getR 48 dX11_move_45 rfl fl_X11_67 rfl rfl ?_
  refine j_iload1 49 dX11_move_48 rfl ?_
  refine j_iald 50 2 rfl (by decide) dX11_move_49 rfl rfl ?_
  refine j_aload0 51 dX11_move_50 rfl ?_
  refine j_getR 54 dX11_move_51 rfl fl_X11_67 rfl rfl ?_
  refine j_iload3 55 dX11_move_54 rfl ?_
  refine j_iald 56 2 rfl (by decide) dX11_move_55 rfl rfl ?_
  refine j_cmp_eq 66 59 dX11_move_56 rfl rfl (fun h56 => ?_) (fun h56 => absurd c3 h56)
  refine j_aload0 67 dX11_move_66 rfl ?_
  refine j_iload1 68 dX11_move_67 rfl ?_
  refine j_iload2 69 dX11_move_68 rfl ?_
  refine j_iload5 71 dX11_move_69 rfl ?_
  refine j_vi3f 74 dX11_move_71 rfl rfl cl_X11_285 rfl rfl (c_stand m 2 (by decide) _ _) ?_
  refine j_if_eq_bz 89 77 dX11_move_74 rfl rfl (fun h74 => absurd c4 h74) (fun h74 => ?_)
  refine j_aload0 78 dX11_move_77 rfl ?_
  refine j_iload3 79 dX11_move_78 rfl ?_
  refine j_iload4 81 dX11_move_79 rfl ?_
  refine j_iload5 83 dX11_move_81 rfl ?_
  refine j_vi3f 86 dX11_move_83 rfl rfl cl_X11_285 rfl rfl (c_stand m 2 (by decide) _ _) ?_
  refine j_if_ne_bz 96 89 dX11_move_86 rfl rfl (fun h86 => ?_) (fun h86 => absurd c5 h86)
  refine j_aload0 97 dX11_move_96 rfl ?_
  refine j_getR 100 dX11_move_97 rfl fl_X11_64 rfl rfl ?_
  refine j_iload1 101 dX11_move_100 rfl ?_
  refine j_aald 102 2 rfl (by decide) dX11_move_101 rfl (by decide) ?_
  refine j_ref (b := 63) (by decide) ?_
  refine j_iload2 103 dX11_move_102 rfl ?_
  refine j_aload0 104 dX11_move_103 rfl ?_
  refine j_getR 107 dX11_move_104 rfl fl_X11_64 rfl rfl ?_
  refine j_iload3 108 dX11_move_107 rfl ?_
  refine j_aald 109 2 rfl (by decide) dX11_move_108 rfl (by decide) ?_
  refine j_ref (b := 63) (by decide) ?_
  refine j_iload4 111 dX11_move_109 rfl ?_
  refine j_iload5 113 dX11_move_111 rfl ?_
  refine j_copy 116 i j n rfl rfl rfl (show i + n ≤ 40 from hi) (show j + n ≤ 40 from hj) dX11_move_113 rfl rfl ac_X11_291 rfl rfl rfl ?_
  refine j_iload5 118 dX11_move_116 rfl ?_
  refine j_iret dX11_move_118 rfl ?_
  exact ⟨rfl, rfl⟩
set_option maxRecDepth 100000 in
theorem o_move_2_3 (m : Mem) (i j n : Nat) (c1 : ¬ m 65 2 = 0) (c2 : ¬ m 65 3 = 0) (c3 : m 65 2 = m 65 3) (hi : i + n ≤ 40) (hj : j + n ≤ 40) (c4 : 0 ≤ nI n ∧ 0 ≤ nI i ∧ nI n ≤ m 66 2 ∧ nI i ≤ m 66 2 - nI n) (c5 : 0 ≤ nI n ∧ 0 ≤ nI j ∧ nI n ≤ m 66 3 ∧ nI j ≤ m 66 3 - nI n) : JM l g 2 mX11_move [rf g 0, .int (nI 2), .int (nI i), .int (nI 3), .int (nI j), .int (nI n)] m (RF (some (.int (nI n))) (cpy m 63 64 i j n)) := by
  refine JM_of (ls := [some (rf g 0), some (.int (nI 2)), some (.int (nI i)), some (.int (nI 3)), some (.int (nI j)), some (.int (nI n))]) pn_X11 rfl rfl ?_
  refine j_iload1 1 dX11_move_0 rfl ?_
  refine j_st1f 4 dX11_move_1 rfl rfl cl_X11_230 rfl (c_isSheet m _) ?_
  refine j_if_eq_bz 14 7 dX11_move_4 rfl rfl (fun h4 => absurd (by decide) h4) (fun h4 => ?_)
  refine j_iload3 8 dX11_move_7 rfl ?_
  refine j_st1f 11 dX11_move_8 rfl rfl cl_X11_230 rfl (c_isSheet m _) ?_
  refine j_if_ne_bz 21 14 dX11_move_11 rfl rfl (fun h11 => ?_) (fun h11 => absurd (by decide) h11)
  refine j_aload0 22 dX11_move_21 rfl ?_
  refine j_iload1 23 dX11_move_22 rfl ?_
  refine j_vi1f 26 dX11_move_23 rfl rfl cl_X11_233 rfl rfl (c_isMissing m 2 (by decide)) ?_
  refine j_if_ne_bz 37 29 dX11_move_26 rfl rfl (fun h26 => absurd h26 c1) (fun h26 => ?_)
  refine j_aload0 30 dX11_move_29 rfl ?_
  refine j_iload3 31 dX11_move_30 rfl ?_
  refine j_vi1f 34 dX11_move_31 rfl rfl cl_X11_233 rfl rfl (c_isMissing m 3 (by decide)) ?_
  refine j_if_eq_bz 44 37 dX11_move_34 rfl rfl (fun h34 => ?_) (fun h34 => absurd h34 c2)
  refine j_aload0 45 dX11_move_44 rfl ?_
  refine j_getR 48 dX11_move_45 rfl fl_X11_67 rfl rfl ?_
  refine j_iload1 49 dX11_move_48 rfl ?_
  refine j_iald 50 2 rfl (by decide) dX11_move_49 rfl rfl ?_
  refine j_aload0 51 dX11_move_50 rfl ?_
  refine j_getR 54 dX11_move_51 rfl fl_X11_67 rfl rfl ?_
  refine j_iload3 55 dX11_move_54 rfl ?_
  refine j_iald 56 3 rfl (by decide) dX11_move_55 rfl rfl ?_
  refine j_cmp_eq 66 59 dX11_move_56 rfl rfl (fun h56 => ?_) (fun h56 => absurd c3 h56)
  refine j_aload0 67 dX11_move_66 rfl ?_
  refine j_iload1 68 dX11_move_67 rfl ?_
  refine j_iload2 69 dX11_move_68 rfl ?_
  refine j_iload5 71 dX11_move_69 rfl ?_
  refine j_vi3f 74 dX11_move_71 rfl rfl cl_X11_285 rfl rfl (c_stand m 2 (by decide) _ _) ?_
  refine j_if_eq_bz 89 77 dX11_move_74 rfl rfl (fun h74 => absurd c4 h74) (fun h74 => ?_)
  refine j_aload0 78 dX11_move_77 rfl ?_
  refine j_iload3 79 dX11_move_78 rfl ?_
  refine j_iload4 81 dX11_move_79 rfl ?_
  refine j_iload5 83 dX11_move_81 rfl ?_
  refine j_vi3f 86 dX11_move_83 rfl rfl cl_X11_285 rfl rfl (c_stand m 3 (by decide) _ _) ?_
  refine j_if_ne_bz 96 89 dX11_move_86 rfl rfl (fun h86 => ?_) (fun h86 => absurd c5 h86)
  refine j_aload0 97 dX11_move_96 rfl ?_
  refine j_getR 100 dX11_move_97 rfl fl_X11_64 rfl rfl ?_
  refine j_iload1 101 dX11_move_100 rfl ?_
  refine j_aald 102 2 rfl (by decide) dX11_move_101 rfl (by decide) ?_
  refine j_ref (b := 63) (by decide) ?_
  refine j_iload2 103 dX11_move_102 rfl ?_
  refine j_aload0 104 dX11_move_103 rfl ?_
  refine j_getR 107 dX11_move_104 rfl fl_X11_64 rfl rfl ?_
  refine j_iload3 108 dX11_move_107 rfl ?_
  refine j_aald 109 3 rfl (by decide) dX11_move_108 rfl (by decide) ?_
  refine j_ref (b := 64) (by decide) ?_
  refine j_iload4 111 dX11_move_109 rfl ?_
  refine j_iload5 113 dX11_move_111 rfl ?_
  refine j_copy 116 i j n rfl rfl rfl (show i + n ≤ 40 from hi) (show j + n ≤ 40 from hj) dX11_move_113 rfl rfl ac_X11_291 rfl rfl rfl ?_
  refine j_iload5 118 dX11_move_116 rfl ?_
  refine j_iret dX11_move_118 rfl ?_
  exact ⟨rfl, rfl⟩
set_option maxRecDepth 100000 in
theorem o_move_3_0 (m : Mem) (i j n : Nat) (c1 : ¬ m 65 3 = 0) (c2 : ¬ m 65 0 = 0) (c3 : m 65 3 = m 65 0) (hi : i + n ≤ 40) (hj : j + n ≤ 40) (c4 : 0 ≤ nI n ∧ 0 ≤ nI i ∧ nI n ≤ m 66 3 ∧ nI i ≤ m 66 3 - nI n) (c5 : 0 ≤ nI n ∧ 0 ≤ nI j ∧ nI n ≤ m 66 0 ∧ nI j ≤ m 66 0 - nI n) : JM l g 2 mX11_move [rf g 0, .int (nI 3), .int (nI i), .int (nI 0), .int (nI j), .int (nI n)] m (RF (some (.int (nI n))) (cpy m 64 61 i j n)) := by
  refine JM_of (ls := [some (rf g 0), some (.int (nI 3)), some (.int (nI i)), some (.int (nI 0)), some (.int (nI j)), some (.int (nI n))]) pn_X11 rfl rfl ?_
  refine j_iload1 1 dX11_move_0 rfl ?_
  refine j_st1f 4 dX11_move_1 rfl rfl cl_X11_230 rfl (c_isSheet m _) ?_
  refine j_if_eq_bz 14 7 dX11_move_4 rfl rfl (fun h4 => absurd (by decide) h4) (fun h4 => ?_)
  refine j_iload3 8 dX11_move_7 rfl ?_
  refine j_st1f 11 dX11_move_8 rfl rfl cl_X11_230 rfl (c_isSheet m _) ?_
  refine j_if_ne_bz 21 14 dX11_move_11 rfl rfl (fun h11 => ?_) (fun h11 => absurd (by decide) h11)
  refine j_aload0 22 dX11_move_21 rfl ?_
  refine j_iload1 23 dX11_move_22 rfl ?_
  refine j_vi1f 26 dX11_move_23 rfl rfl cl_X11_233 rfl rfl (c_isMissing m 3 (by decide)) ?_
  refine j_if_ne_bz 37 29 dX11_move_26 rfl rfl (fun h26 => absurd h26 c1) (fun h26 => ?_)
  refine j_aload0 30 dX11_move_29 rfl ?_
  refine j_iload3 31 dX11_move_30 rfl ?_
  refine j_vi1f 34 dX11_move_31 rfl rfl cl_X11_233 rfl rfl (c_isMissing m 0 (by decide)) ?_
  refine j_if_eq_bz 44 37 dX11_move_34 rfl rfl (fun h34 => ?_) (fun h34 => absurd h34 c2)
  refine j_aload0 45 dX11_move_44 rfl ?_
  refine j_getR 48 dX11_move_45 rfl fl_X11_67 rfl rfl ?_
  refine j_iload1 49 dX11_move_48 rfl ?_
  refine j_iald 50 3 rfl (by decide) dX11_move_49 rfl rfl ?_
  refine j_aload0 51 dX11_move_50 rfl ?_
  refine j_getR 54 dX11_move_51 rfl fl_X11_67 rfl rfl ?_
  refine j_iload3 55 dX11_move_54 rfl ?_
  refine j_iald 56 0 rfl (by decide) dX11_move_55 rfl rfl ?_
  refine j_cmp_eq 66 59 dX11_move_56 rfl rfl (fun h56 => ?_) (fun h56 => absurd c3 h56)
  refine j_aload0 67 dX11_move_66 rfl ?_
  refine j_iload1 68 dX11_move_67 rfl ?_
  refine j_iload2 69 dX11_move_68 rfl ?_
  refine j_iload5 71 dX11_move_69 rfl ?_
  refine j_vi3f 74 dX11_move_71 rfl rfl cl_X11_285 rfl rfl (c_stand m 3 (by decide) _ _) ?_
  refine j_if_eq_bz 89 77 dX11_move_74 rfl rfl (fun h74 => absurd c4 h74) (fun h74 => ?_)
  refine j_aload0 78 dX11_move_77 rfl ?_
  refine j_iload3 79 dX11_move_78 rfl ?_
  refine j_iload4 81 dX11_move_79 rfl ?_
  refine j_iload5 83 dX11_move_81 rfl ?_
  refine j_vi3f 86 dX11_move_83 rfl rfl cl_X11_285 rfl rfl (c_stand m 0 (by decide) _ _) ?_
  refine j_if_ne_bz 96 89 dX11_move_86 rfl rfl (fun h86 => ?_) (fun h86 => absurd c5 h86)
  refine j_aload0 97 dX11_move_96 rfl ?_
  refine j_getR 100 dX11_move_97 rfl fl_X11_64 rfl rfl ?_
  refine j_iload1 101 dX11_move_100 rfl ?_
  refine j_aald 102 3 rfl (by decide) dX11_move_101 rfl (by decide) ?_
  refine j_ref (b := 64) (by decide) ?_
  refine j_iload2 103 dX11_move_102 rfl ?_
  refine j_aload0 104 dX11_move_103 rfl ?_
  refine j_getR 107 dX11_move_104 rfl fl_X11_64 rfl rfl ?_
  refine j_iload3 108 dX11_move_107 rfl ?_
  refine j_aald 109 0 rfl (by decide) dX11_move_108 rfl (by decide) ?_
  refine j_ref (b := 61) (by decide) ?_
  refine j_iload4 111 dX11_move_109 rfl ?_
  refine j_iload5 113 dX11_move_111 rfl ?_
  refine j_copy 116 i j n rfl rfl rfl (show i + n ≤ 40 from hi) (show j + n ≤ 40 from hj) dX11_move_113 rfl rfl ac_X11_291 rfl rfl rfl ?_
  refine j_iload5 118 dX11_move_116 rfl ?_
  refine j_iret dX11_move_118 rfl ?_
  exact ⟨rfl, rfl⟩
set_option maxRecDepth 100000 in
theorem o_move_3_1 (m : Mem) (i j n : Nat) (c1 : ¬ m 65 3 = 0) (c2 : ¬ m 65 1 = 0) (c3 : m 65 3 = m 65 1) (hi : i + n ≤ 40) (hj : j + n ≤ 40) (c4 : 0 ≤ nI n ∧ 0 ≤ nI i ∧ nI n ≤ m 66 3 ∧ nI i ≤ m 66 3 - nI n) (c5 : 0 ≤ nI n ∧ 0 ≤ nI j ∧ nI n ≤ m 66 1 ∧ nI j ≤ m 66 1 - nI n) : JM l g 2 mX11_move [rf g 0, .int (nI 3), .int (nI i), .int (nI 1), .int (nI j), .int (nI n)] m (RF (some (.int (nI n))) (cpy m 64 62 i j n)) := by
  refine JM_of (ls := [some (rf g 0), some (.int (nI 3)), some (.int (nI i)), some (.int (nI 1)), some (.int (nI j)), some (.int (nI n))]) pn_X11 rfl rfl ?_
  refine j_iload1 1 dX11_move_0 rfl ?_
  refine j_st1f 4 dX11_move_1 rfl rfl cl_X11_230 rfl (c_isSheet m _) ?_
  refine j_if_eq_bz 14 7 dX11_move_4 rfl rfl (fun h4 => absurd (by decide) h4) (fun h4 => ?_)
  refine j_iload3 8 dX11_move_7 rfl ?_
  refine j_st1f 11 dX11_move_8 rfl rfl cl_X11_230 rfl (c_isSheet m _) ?_
  refine j_if_ne_bz 21 14 dX11_move_11 rfl rfl (fun h11 => ?_) (fun h11 => absurd (by decide) h11)
  refine j_aload0 22 dX11_move_21 rfl ?_
  refine j_iload1 23 dX11_move_22 rfl ?_
  refine j_vi1f 26 dX11_move_23 rfl rfl cl_X11_233 rfl rfl (c_isMissing m 3 (by decide)) ?_
  refine j_if_ne_bz 37 29 dX11_move_26 rfl rfl (fun h26 => absurd h26 c1) (fun h26 => ?_)
  refine j_aload0 30 dX11_move_29 rfl ?_
  refine j_iload3 31 dX11_move_30 rfl ?_
  refine j_vi1f 34 dX11_move_31 rfl rfl cl_X11_233 rfl rfl (c_isMissing m 1 (by decide)) ?_
  refine j_if_eq_bz 44 37 dX11_move_34 rfl rfl (fun h34 => ?_) (fun h34 => absurd h34 c2)
  refine j_aload0 45 dX11_move_44 rfl ?_
  refine j_getR 48 dX11_move_45 rfl fl_X11_67 rfl rfl ?_
  refine j_iload1 49 dX11_move_48 rfl ?_
  refine j_iald 50 3 rfl (by decide) dX11_move_49 rfl rfl ?_
  refine j_aload0 51 dX11_move_50 rfl ?_
  refine j_getR 54 dX11_move_51 rfl fl_X11_67 rfl rfl ?_
  refine j_iload3 55 dX11_move_54 rfl ?_
  refine j_iald 56 1 rfl (by decide) dX11_move_55 rfl rfl ?_
  refine j_cmp_eq 66 59 dX11_move_56 rfl rfl (fun h56 => ?_) (fun h56 => absurd c3 h56)
  refine j_aload0 67 dX11_move_66 rfl ?_
  refine j_iload1 68 dX11_move_67 rfl ?_
  refine j_iload2 69 dX11_move_68 rfl ?_
  refine j_iload5 71 dX11_move_69 rfl ?_
  refine j_vi3f 74 dX11_move_71 rfl rfl cl_X11_285 rfl rfl (c_stand m 3 (by decide) _ _) ?_
  refine j_if_eq_bz 89 77 dX11_move_74 rfl rfl (fun h74 => absurd c4 h74) (fun h74 => ?_)
  refine j_aload0 78 dX11_move_77 rfl ?_
  refine j_iload3 79 dX11_move_78 rfl ?_
  refine j_iload4 81 dX11_move_79 rfl ?_
  refine j_iload5 83 dX11_move_81 rfl ?_
  refine j_vi3f 86 dX11_move_83 rfl rfl cl_X11_285 rfl rfl (c_stand m 1 (by decide) _ _) ?_
  refine j_if_ne_bz 96 89 dX11_move_86 rfl rfl (fun h86 => ?_) (fun h86 => absurd c5 h86)
  refine j_aload0 97 dX11_move_96 rfl ?_
  refine j_getR 100 dX11_move_97 rfl fl_X11_64 rfl rfl ?_
  refine j_iload1 101 dX11_move_100 rfl ?_
  refine j_aald 102 3 rfl (by decide) dX11_move_101 rfl (by decide) ?_
  refine j_ref (b := 64) (by decide) ?_
  refine j_iload2 103 dX11_move_102 rfl ?_
  refine j_aload0 104 dX11_move_103 rfl ?_
  refine j_getR 107 dX11_move_104 rfl fl_X11_64 rfl rfl ?_
  refine j_iload3 108 dX11_move_107 rfl ?_
  refine j_aald 109 1 rfl (by decide) dX11_move_108 rfl (by decide) ?_
  refine j_ref (b := 62) (by decide) ?_
  refine j_iload4 111 dX11_move_109 rfl ?_
  refine j_iload5 113 dX11_move_111 rfl ?_
  refine j_copy 116 i j n rfl rfl rfl (show i + n ≤ 40 from hi) (show j + n ≤ 40 from hj) dX11_move_113 rfl rfl ac_X11_291 rfl rfl rfl ?_
  refine j_iload5 118 dX11_move_116 rfl ?_
  refine j_iret dX11_move_118 rfl ?_
  exact ⟨rfl, rfl⟩
set_option maxRecDepth 100000 in
theorem o_move_3_2 (m : Mem) (i j n : Nat) (c1 : ¬ m 65 3 = 0) (c2 : ¬ m 65 2 = 0) (c3 : m 65 3 = m 65 2) (hi : i + n ≤ 40) (hj : j + n ≤ 40) (c4 : 0 ≤ nI n ∧ 0 ≤ nI i ∧ nI n ≤ m 66 3 ∧ nI i ≤ m 66 3 - nI n) (c5 : 0 ≤ nI n ∧ 0 ≤ nI j ∧ nI n ≤ m 66 2 ∧ nI j ≤ m 66 2 - nI n) : JM l g 2 mX11_move [rf g 0, .int (nI 3), .int (nI i), .int (nI 2), .int (nI j), .int (nI n)] m (RF (some (.int (nI n))) (cpy m 64 63 i j n)) := by
  refine JM_of (ls := [some (rf g 0), some (.int (nI 3)), some (.int (nI i)), some (.int (nI 2)), some (.int (nI j)), some (.int (nI n))]) pn_X11 rfl rfl ?_
  refine j_iload1 1 dX11_move_0 rfl ?_
  refine j_st1f 4 dX11_move_1 rfl rfl cl_X11_230 rfl (c_isSheet m _) ?_
  refine j_if_eq_bz 14 7 dX11_move_4 rfl rfl (fun h4 => absurd (by decide) h4) (fun h4 => ?_)
  refine j_iload3 8 dX11_move_7 rfl ?_
  refine j_st1f 11 dX11_move_8 rfl rfl cl_X11_230 rfl (c_isSheet m _) ?_
  refine j_if_ne_bz 21 14 dX11_move_11 rfl rfl (fun h11 => ?_) (fun h11 => absurd (by decide) h11)
  refine j_aload0 22 dX11_move_21 rfl ?_
  refine j_iload1 23 dX11_move_22 rfl ?_
  refine j_vi1f 26 dX11_move_23 rfl rfl cl_X11_233 rfl rfl (c_isMissing m 3 (by decide)) ?_
  refine j_if_ne_bz 37 29 dX11_move_26 rfl rfl (fun h26 => absurd h26 c1) (fun h26 => ?_)
  refine j_aload0 30 dX11_move_29 rfl ?_
  refine j_iload3 31 dX11_move_30 rfl ?_
  refine j_vi1f 34 dX11_move_31 rfl rfl cl_X11_233 rfl rfl (c_isMissing m 2 (by decide)) ?_
  refine j_if_eq_bz 44 37 dX11_move_34 rfl rfl (fun h34 => ?_) (fun h34 => absurd h34 c2)
  refine j_aload0 45 dX11_move_44 rfl ?_
  refine j_getR 48 dX11_move_45 rfl fl_X11_67 rfl rfl ?_
  refine j_iload1 49 dX11_move_48 rfl ?_
  refine j_iald 50 3 rfl (by decide) dX11_move_49 rfl rfl ?_
  refine j_aload0 51 dX11_move_50 rfl ?_
  refine j_getR 54 dX11_move_51 rfl fl_X11_67 rfl rfl ?_
  refine j_iload3 55 dX11_move_54 rfl ?_
  refine j_iald 56 2 rfl (by decide) dX11_move_55 rfl rfl ?_
  refine j_cmp_eq 66 59 dX11_move_56 rfl rfl (fun h56 => ?_) (fun h56 => absurd c3 h56)
  refine j_aload0 67 dX11_move_66 rfl ?_
  refine j_iload1 68 dX11_move_67 rfl ?_
  refine j_iload2 69 dX11_move_68 rfl ?_
  refine j_iload5 71 dX11_move_69 rfl ?_
  refine j_vi3f 74 dX11_move_71 rfl rfl cl_X11_285 rfl rfl (c_stand m 3 (by decide) _ _) ?_
  refine j_if_eq_bz 89 77 dX11_move_74 rfl rfl (fun h74 => absurd c4 h74) (fun h74 => ?_)
  refine j_aload0 78 dX11_move_77 rfl ?_
  refine j_iload3 79 dX11_move_78 rfl ?_
  refine j_iload4 81 dX11_move_79 rfl ?_
  refine j_iload5 83 dX11_move_81 rfl ?_
  refine j_vi3f 86 dX11_move_83 rfl rfl cl_X11_285 rfl rfl (c_stand m 2 (by decide) _ _) ?_
  refine j_if_ne_bz 96 89 dX11_move_86 rfl rfl (fun h86 => ?_) (fun h86 => absurd c5 h86)
  refine j_aload0 97 dX11_move_96 rfl ?_
  refine j_getR 100 dX11_move_97 rfl fl_X11_64 rfl rfl ?_
  refine j_iload1 101 dX11_move_100 rfl ?_
  refine j_aald 102 3 rfl (by decide) dX11_move_101 rfl (by decide) ?_
  refine j_ref (b := 64) (by decide) ?_
  refine j_iload2 103 dX11_move_102 rfl ?_
  refine j_aload0 104 dX11_move_103 rfl ?_
  refine j_getR 107 dX11_move_104 rfl fl_X11_64 rfl rfl ?_
  refine j_iload3 108 dX11_move_107 rfl ?_
  refine j_aald 109 2 rfl (by decide) dX11_move_108 rfl (by decide) ?_
  refine j_ref (b := 63) (by decide) ?_
  refine j_iload4 111 dX11_move_109 rfl ?_
  refine j_iload5 113 dX11_move_111 rfl ?_
  refine j_copy 116 i j n rfl rfl rfl (show i + n ≤ 40 from hi) (show j + n ≤ 40 from hj) dX11_move_113 rfl rfl ac_X11_291 rfl rfl rfl ?_
  refine j_iload5 118 dX11_move_116 rfl ?_
  refine j_iret dX11_move_118 rfl ?_
  exact ⟨rfl, rfl⟩
set_option maxRecDepth 100000 in
theorem o_move_3_3 (m : Mem) (i j n : Nat) (c1 : ¬ m 65 3 = 0) (c2 : ¬ m 65 3 = 0) (c3 : m 65 3 = m 65 3) (hi : i + n ≤ 40) (hj : j + n ≤ 40) (c4 : 0 ≤ nI n ∧ 0 ≤ nI i ∧ nI n ≤ m 66 3 ∧ nI i ≤ m 66 3 - nI n) (c5 : 0 ≤ nI n ∧ 0 ≤ nI j ∧ nI n ≤ m 66 3 ∧ nI j ≤ m 66 3 - nI n) : JM l g 2 mX11_move [rf g 0, .int (nI 3), .int (nI i), .int (nI 3), .int (nI j), .int (nI n)] m (RF (some (.int (nI n))) (cpy m 64 64 i j n)) := by
  refine JM_of (ls := [some (rf g 0), some (.int (nI 3)), some (.int (nI i)), some (.int (nI 3)), some (.int (nI j)), some (.int (nI n))]) pn_X11 rfl rfl ?_
  refine j_iload1 1 dX11_move_0 rfl ?_
  refine j_st1f 4 dX11_move_1 rfl rfl cl_X11_230 rfl (c_isSheet m _) ?_
  refine j_if_eq_bz 14 7 dX11_move_4 rfl rfl (fun h4 => absurd (by decide) h4) (fun h4 => ?_)
  refine j_iload3 8 dX11_move_7 rfl ?_
  refine j_st1f 11 dX11_move_8 rfl rfl cl_X11_230 rfl (c_isSheet m _) ?_
  refine j_if_ne_bz 21 14 dX11_move_11 rfl rfl (fun h11 => ?_) (fun h11 => absurd (by decide) h11)
  refine j_aload0 22 dX11_move_21 rfl ?_
  refine j_iload1 23 dX11_move_22 rfl ?_
  refine j_vi1f 26 dX11_move_23 rfl rfl cl_X11_233 rfl rfl (c_isMissing m 3 (by decide)) ?_
  refine j_if_ne_bz 37 29 dX11_move_26 rfl rfl (fun h26 => absurd h26 c1) (fun h26 => ?_)
  refine j_aload0 30 dX11_move_29 rfl ?_
  refine j_iload3 31 dX11_move_30 rfl ?_
  refine j_vi1f 34 dX11_move_31 rfl rfl cl_X11_233 rfl rfl (c_isMissing m 3 (by decide)) ?_
  refine j_if_eq_bz 44 37 dX11_move_34 rfl rfl (fun h34 => ?_) (fun h34 => absurd h34 c2)
  refine j_aload0 45 dX11_move_44 rfl ?_
  refine j_getR 48 dX11_move_45 rfl fl_X11_67 rfl rfl ?_
  refine j_iload1 49 dX11_move_48 rfl ?_
  refine j_iald 50 3 rfl (by decide) dX11_move_49 rfl rfl ?_
  refine j_aload0 51 dX11_move_50 rfl ?_
  refine j_getR 54 dX11_move_51 rfl fl_X11_67 rfl rfl ?_
  refine j_iload3 55 dX11_move_54 rfl ?_
  refine j_iald 56 3 rfl (by decide) dX11_move_55 rfl rfl ?_
  refine j_cmp_eq 66 59 dX11_move_56 rfl rfl (fun h56 => ?_) (fun h56 => absurd c3 h56)
  refine j_aload0 67 dX11_move_66 rfl ?_
  refine j_iload1 68 dX11_move_67 rfl ?_
  refine j_iload2 69 dX11_move_68 rfl ?_
  refine j_iload5 71 dX11_move_69 rfl ?_
  refine j_vi3f 74 dX11_move_71 rfl rfl cl_X11_285 rfl rfl (c_stand m 3 (by decide) _ _) ?_
  refine j_if_eq_bz 89 77 dX11_move_74 rfl rfl (fun h74 => absurd c4 h74) (fun h74 => ?_)
  refine j_aload0 78 dX11_move_77 rfl ?_
  refine j_iload3 79 dX11_move_78 rfl ?_
  refine j_iload4 81 dX11_move_79 rfl ?_
  refine j_iload5 83 dX11_move_81 rfl ?_
  refine j_vi3f 86 dX11_move_83 rfl rfl cl_X11_285 rfl rfl (c_stand m 3 (by decide) _ _) ?_
  refine j_if_ne_bz 96 89 dX11_move_86 rfl rfl (fun h86 => ?_) (fun h86 => absurd c5 h86)
  refine j_aload0 97 dX11_move_96 rfl ?_
  refine j_getR 100 dX11_move_97 rfl fl_X11_64 rfl rfl ?_
  refine j_iload1 101 dX11_move_100 rfl ?_
  refine j_aald 102 3 rfl (by decide) dX11_move_101 rfl (by decide) ?_
  refine j_ref (b := 64) (by decide) ?_
  refine j_iload2 103 dX11_move_102 rfl ?_
  refine j_aload0 104 dX11_move_103 rfl ?_
  refine j_getR 107 dX11_move_104 rfl fl_X11_64 rfl rfl ?_
  refine j_iload3 108 dX11_move_107 rfl ?_
  refine j_aald 109 3 rfl (by decide) dX11_move_108 rfl (by decide) ?_
  refine j_ref (b := 64) (by decide) ?_
  refine j_iload4 111 dX11_move_109 rfl ?_
  refine j_iload5 113 dX11_move_111 rfl ?_
  refine j_copy 116 i j n rfl rfl rfl (show i + n ≤ 40 from hi) (show j + n ≤ 40 from hj) dX11_move_113 rfl rfl ac_X11_291 rfl rfl rfl ?_
  refine j_iload5 118 dX11_move_116 rfl ?_
  refine j_iret dX11_move_118 rfl ?_
  exact ⟨rfl, rfl⟩
set_option maxRecDepth 100000 in
theorem la_move {Q : Option Value → Mem → Prop} (s i t j n : Nat) (hs : s < 4) (hi : i + n ≤ 40) (m0 : Mem) (kk : J l g 2 mX12_move 149 [some (rf g 68), some (.int (nI s)), some (.int (nI i)), some (.int (nI t)), some (.int (nI j)), some (.int (nI n)), some (.int (nI n))] [] (upR m0 80 (fun q => if q < n then (fun q => m0 79 (40 * s + i + q)) q else m0 80 q)) Q) : ∀ (k p : Nat), p + k = n → J l g 2 mX12_move 115 [some (rf g 68), some (.int (nI s)), some (.int (nI i)), some (.int (nI t)), some (.int (nI j)), some (.int (nI n)), some (.int (nI p))] [] (upR m0 80 (fun q => if q < p then (fun q => m0 79 (40 * s + i + q)) q else m0 80 q)) Q := by
  intro k
  induction k with
  | zero =>
    intro p e
    have e : p = n := by omega
    subst e
    refine j_iload6 117 dX12_move_115 rfl ?_
    refine j_iload5 119 dX12_move_117 rfl ?_
    refine j_cmp_ge 149 122 dX12_move_119 rfl rfl (fun h119 => ?_) (fun h119 => absurd (Int32.le_refl _) h119)
    exact kk
  | succ k ih =>
    intro p e
    have e2 : nI p + 1 = nI (p + 1) := nI_1 p
    have r : upR m0 80 (fun q => if q < p then (fun q => m0 79 (40 * s + i + q)) q else m0 80 q) 79 (40 * s + i + p) = m0 79 (40 * s + i + p) := congrFun (upR_n (by decide)) _
    refine j_iload6 117 dX12_move_115 rfl ?_
    refine j_iload5 119 dX12_move_117 rfl ?_
    refine j_cmp_ge 149 122 dX12_move_119 rfl rfl (fun h119 => absurd h119 (nI_ge (a := p) (b := n) (by omega) (by omega))) (fun h119 => ?_)
    refine j_aload0 123 dX12_move_122 rfl ?_
    refine j_getR 126 dX12_move_123 rfl fl_X12_43 rfl rfl ?_
    refine j_iload6 128 dX12_move_126 rfl ?_
    refine j_aload0 129 dX12_move_128 rfl ?_
    refine j_getR 132 dX12_move_129 rfl fl_X12_40 rfl rfl ?_
    refine j_bipush 134 (v := nI 40) dX12_move_132 rfl rfl ?_
    refine j_iload1 135 dX12_move_134 rfl ?_
    refine j_imulN 136 dX12_move_135 rfl ?_
    refine j_iload2 137 dX12_move_136 rfl ?_
    refine j_iaddN 138 dX12_move_137 rfl ?_
    refine j_iload6 140 dX12_move_138 rfl ?_
    refine j_iaddN 141 dX12_move_140 rfl ?_
    refine j_iald 142 (40 * s + i + p) rfl (show 40 * s + i + p < 160 by omega) dX12_move_141 rfl rfl ?_
    refine j_top r ?_
    refine j_iast 143 _ rfl (show p < 40 by omega) dX12_move_142 rfl rfl ?_
    refine j_iinc6 146 (1) dX12_move_143 rfl rfl rfl rfl ?_
    refine j_goto 115 dX12_move_146 rfl ?_
    rw [e2]
    refine j_mem (upR_nx (f := fun q => m0 79 (40 * s + i + q)) (h := m0 80)) ?_
    exact ih (p + 1) (by omega)
set_option maxRecDepth 100000 in
theorem lb_move {Q : Option Value → Mem → Prop} (s i t j n : Nat) (ht : t < 4) (hj : j + n ≤ 40) (m0 : Mem) (kk : Q (some (.int (nI n))) (upR m0 79 (fun q => if 40 * t + j ≤ q ∧ q < 40 * t + j + n then m0 80 (q - (40 * t + j)) else m0 79 q))) : ∀ (k p : Nat), p + k = n → J l g 2 mX12_move 152 [some (rf g 68), some (.int (nI s)), some (.int (nI i)), some (.int (nI t)), some (.int (nI j)), some (.int (nI n)), some (.int (nI p))] [] (upR m0 79 (fun q => if 40 * t + j ≤ q ∧ q < 40 * t + j + p then m0 80 (q - (40 * t + j)) else m0 79 q)) Q := by
  intro k
  induction k with
  | zero =>
    intro p e
    have e : p = n := by omega
    subst e
    refine j_iload6 154 dX12_move_152 rfl ?_
    refine j_iload5 156 dX12_move_154 rfl ?_
    refine j_cmp_ge 187 159 dX12_move_156 rfl rfl (fun h156 => ?_) (fun h156 => absurd (Int32.le_refl _) h156)
    refine j_iload5 189 dX12_move_187 rfl ?_
    refine j_iret dX12_move_189 rfl ?_
    exact kk
  | succ k ih =>
    intro p e
    have e2 : nI p + 1 = nI (p + 1) := nI_1 p
    have r : upR m0 79 (fun q => if 40 * t + j ≤ q ∧ q < 40 * t + j + p then m0 80 (q - (40 * t + j)) else m0 79 q) 80 p = m0 80 p := congrFun (upR_n (by decide)) _
    refine j_iload6 154 dX12_move_152 rfl ?_
    refine j_iload5 156 dX12_move_154 rfl ?_
    refine j_cmp_ge 187 159 dX12_move_156 rfl rfl (fun h156 => absurd h156 (nI_ge (a := p) (b := n) (by omega) (by omega))) (fun h156 => ?_)
    refine j_aload0 160 dX12_move_159 rfl ?_
    refine j_getR 163 dX12_move_160 rfl fl_X12_40 rfl rfl ?_
    refine j_bipush 165 (v := nI 40) dX12_move_163 rfl rfl ?_
    refine j_iload3 166 dX12_move_165 rfl ?_
    refine j_imulN 167 dX12_move_166 rfl ?_
    refine j_iload4 169 dX12_move_167 rfl ?_
    refine j_iaddN 170 dX12_move_169 rfl ?_
    refine j_iload6 172 dX12_move_170 rfl ?_
    refine j_iaddN 173 dX12_move_172 rfl ?_
    refine j_aload0 174 dX12_move_173 rfl ?_
    refine j_getR 177 dX12_move_174 rfl fl_X12_43 rfl rfl ?_
    refine j_iload6 179 dX12_move_177 rfl ?_
    refine j_iald 180 _ rfl (show p < 40 by omega) dX12_move_179 rfl rfl ?_
    refine j_top r ?_
    refine j_iast 181 (40 * t + j + p) rfl (show 40 * t + j + p < 160 by omega) dX12_move_180 rfl rfl ?_
    refine j_iinc6 184 (1) dX12_move_181 rfl rfl rfl rfl ?_
    refine j_goto 152 dX12_move_184 rfl ?_
    rw [e2]
    refine j_mem (upR_nx2 (b0 := 40 * t + j) (f := m0 80) (h := m0 79)) ?_
    exact ih (p + 1) (by omega)
set_option maxRecDepth 100000 in
theorem p_move (m : Mem) (s t i j n : Nat) (hs : s < 4) (ht : t < 4) (c1 : ¬ m 77 s = 0) (c2 : ¬ m 77 t = 0) (c3 : m 77 s = m 77 t) (hi : i + n ≤ 40) (hj : j + n ≤ 40) (c4 : 0 ≤ nI n ∧ 0 ≤ nI i ∧ nI n ≤ m 78 s - nI i) (c5 : 0 ≤ nI n ∧ 0 ≤ nI j ∧ nI n ≤ m 78 t - nI j) : JM l g 2 mX12_move [rf g 68, .int (nI s), .int (nI i), .int (nI t), .int (nI j), .int (nI n)] m (RF (some (.int (nI n))) (upR (upR m 80 (lfR m s i n)) 79 (fun q => if 40 * t + j ≤ q ∧ q < 40 * t + j + n then (fun q => m 79 (40 * s + i + q)) (q - (40 * t + j)) else m 79 q))) := by
  refine JM_of (ls := [some (rf g 68), some (.int (nI s)), some (.int (nI i)), some (.int (nI t)), some (.int (nI j)), some (.int (nI n)), none]) pn_X12 rfl rfl ?_
  have tl : J l g 2 mX12_move 149 [some (rf g 68), some (.int (nI s)), some (.int (nI i)), some (.int (nI t)), some (.int (nI j)), some (.int (nI n)), some (.int (nI n))] [] (upR m 80 (lfR m s i n)) (RF (some (.int (nI n))) (upR (upR m 80 (lfR m s i n)) 79 (fun q => if 40 * t + j ≤ q ∧ q < 40 * t + j + n then (fun q => m 79 (40 * s + i + q)) (q - (40 * t + j)) else m 79 q))) := by
    refine j_iconst 150 (v := 0) dX12_move_149 rfl rfl ?_
    refine j_istore6 152 dX12_move_150 rfl rfl rfl ?_
    refine j_mem (upR_n0 (m := upR m 80 (lfR m s i n)) (c := 79) (f := fun q => if 40 * t + j ≤ q ∧ q < 40 * t + j + 0 then upR m 80 (lfR m s i n) 80 (q - (40 * t + j)) else upR m 80 (lfR m s i n) 79 q) (fun q => if_neg (by omega))).symm ?_
    refine lb_move s i t j n ht hj (upR m 80 (lfR m s i n)) ⟨rfl, ?_⟩ n 0 (Nat.zero_add _)
    congr 1
    funext q
    rw [upR_n (show 79 ≠ 80 by decide), upR_s]
    by_cases z : 40 * t + j ≤ q ∧ q < 40 * t + j + n
    · rw [if_pos z, if_pos z]; exact if_pos (show q - (40 * t + j) < n by omega)
    · rw [if_neg z, if_neg z]
  refine j_iload1 1 dX12_move_0 rfl ?_
  refine j_st1f 4 dX12_move_1 rfl rfl cl_X12_243 rfl (c_misSheet m _) ?_
  refine j_if_eq_bz 14 7 dX12_move_4 rfl rfl (fun h4 => absurd ((rngN 3 (by decide)).mpr ⟨s, by omega, rfl⟩) h4) (fun h4 => ?_)
  refine j_iload3 8 dX12_move_7 rfl ?_
  refine j_st1f 11 dX12_move_8 rfl rfl cl_X12_243 rfl (c_misSheet m _) ?_
  refine j_if_ne_bz 20 14 dX12_move_11 rfl rfl (fun h11 => ?_) (fun h11 => absurd ((rngN 3 (by decide)).mpr ⟨t, by omega, rfl⟩) h11)
  refine j_aload0 21 dX12_move_20 rfl ?_
  refine j_getR 24 dX12_move_21 rfl fl_X12_34 rfl rfl ?_
  refine j_iload1 25 dX12_move_24 rfl ?_
  refine j_iald 26 _ rfl hs dX12_move_25 rfl rfl ?_
  refine j_if_eq 38 29 dX12_move_26 rfl rfl (fun h26 => absurd h26 c1) (fun h26 => ?_)
  refine j_aload0 30 dX12_move_29 rfl ?_
  refine j_getR 33 dX12_move_30 rfl fl_X12_34 rfl rfl ?_
  refine j_iload3 34 dX12_move_33 rfl ?_
  refine j_iald 35 _ rfl ht dX12_move_34 rfl rfl ?_
  refine j_if_ne 44 38 dX12_move_35 rfl rfl (fun h35 => ?_) (fun h35 => absurd h35 c2)
  refine j_aload0 45 dX12_move_44 rfl ?_
  refine j_getR 48 dX12_move_45 rfl fl_X12_34 rfl rfl ?_
  refine j_iload1 49 dX12_move_48 rfl ?_
  refine j_iald 50 _ rfl hs dX12_move_49 rfl rfl ?_
  refine j_aload0 51 dX12_move_50 rfl ?_
  refine j_getR 54 dX12_move_51 rfl fl_X12_34 rfl rfl ?_
  refine j_iload3 55 dX12_move_54 rfl ?_
  refine j_iald 56 _ rfl ht dX12_move_55 rfl rfl ?_
  refine j_cmp_eq 65 59 dX12_move_56 rfl rfl (fun h56 => ?_) (fun h56 => absurd c3 h56)
  refine j_iload5 67 dX12_move_65 rfl ?_
  refine j_if_lt 106 70 dX12_move_67 rfl rfl (fun h67 => absurd h67 (Int32.not_lt.mpr c4.1)) (fun h67 => ?_)
  refine j_iload2 71 dX12_move_70 rfl ?_
  refine j_if_lt 106 74 dX12_move_71 rfl rfl (fun h71 => absurd h71 (Int32.not_lt.mpr c4.2.1)) (fun h71 => ?_)
  refine j_iload4 76 dX12_move_74 rfl ?_
  refine j_if_lt 106 79 dX12_move_76 rfl rfl (fun h76 => absurd h76 (Int32.not_lt.mpr c5.2.1)) (fun h76 => ?_)
  refine j_iload5 81 dX12_move_79 rfl ?_
  refine j_aload0 82 dX12_move_81 rfl ?_
  refine j_getR 85 dX12_move_82 rfl fl_X12_37 rfl rfl ?_
  refine j_iload1 86 dX12_move_85 rfl ?_
  refine j_iald 87 _ rfl hs dX12_move_86 rfl rfl ?_
  refine j_iload2 88 dX12_move_87 rfl ?_
  refine j_isub 89 dX12_move_88 rfl ?_
  refine j_cmp_gt 106 92 dX12_move_89 rfl rfl (fun h89 => absurd h89 (Int32.not_lt.mpr c4.2.2)) (fun h89 => ?_)
  refine j_iload5 94 dX12_move_92 rfl ?_
  refine j_aload0 95 dX12_move_94 rfl ?_
  refine j_getR 98 dX12_move_95 rfl fl_X12_37 rfl rfl ?_
  refine j_iload3 99 dX12_move_98 rfl ?_
  refine j_iald 100 _ rfl ht dX12_move_99 rfl rfl ?_
  refine j_iload4 102 dX12_move_100 rfl ?_
  refine j_isub 103 dX12_move_102 rfl ?_
  refine j_cmp_le 112 106 dX12_move_103 rfl rfl (fun h103 => ?_) (fun h103 => absurd c5.2.2 h103)
  refine j_iconst 113 (v := 0) dX12_move_112 rfl rfl ?_
  refine j_istore6 115 dX12_move_113 rfl rfl rfl ?_
  refine j_mem (upR_n0 (m := m) (c := 80) (f := fun q => if q < 0 then (fun q => m 79 (40 * s + i + q)) q else m 80 q) (fun q => if_neg (Nat.not_lt_zero q))).symm ?_
  exact la_move s i t j n hs hi m tl n 0 (Nat.zero_add _)
theorem op_move {m : Mem} (I : INV m) (a i b j n : Int32) : OPr l g mX11_move mX12_move [.int a, .int i, .int b, .int j, .int n] m := by
  obtain ⟨-, -, -, -, hSH⟩ := id I
  by_cases c : (0 ≤ a ∧ a ≤ 3) ∧ (0 ≤ b ∧ b ≤ 3)
  · obtain ⟨s, hs, rfl⟩ := (rngN 3 (by decide)).mp c.1
    obtain ⟨t, ht, rfl⟩ := (rngN 3 (by decide)).mp c.2
    have hs : s < 4 := by omega
    have ht : t < 4 := by omega
    obtain ⟨a1, a2, a3, ⟨K, hK, eK⟩, a5⟩ := hSH s hs
    obtain ⟨b1, b2, b3, ⟨L, hL, eL⟩, b5⟩ := hSH t ht
    by_cases hb : m 77 s = 0 ∨ m 77 t = 0
    · exact OPr_err I (by decide) (by decide) (by decide) (e_move1 m s t i j n hs ht (by rw [a1, b1]; exact hb)) (f_move1 _ s t i j n hs ht (by rw [errC_o (by decide)]; exact hb))
    · have c1 : ¬ m 77 s = 0 := fun q => hb (Or.inl q)
      have c2 : ¬ m 77 t = 0 := fun q => hb (Or.inr q)
      by_cases c3 : m 77 s = m 77 t
      · by_cases cs : stN K i n ∧ stN L j n
        · have s1 := (stc hK).mpr cs.1
          have s2 := (stc hL).mpr cs.2
          have s3 := (stm hK).mpr cs.1
          have s4 := (stm hL).mpr cs.2
          obtain ⟨⟨x, y, h1, rfl, rfl⟩, ⟨x2, y2, h2, h3, rfl⟩⟩ := cs
          have ex : x = x2 := (nI_eq (by omega) (by omega)).mp h3
          subst ex
          have key : ∀ m2 X, m2 = upR (upR (cpy m (61 + s) (61 + t) y y2 x) 80 X) 79 (fun q => if 40 * t + y2 ≤ q ∧ q < 40 * t + y2 + x then (fun q => m 79 (40 * s + y + q)) (q - (40 * t + y2)) else m 79 q) → INV m2 := fun m2 X e => by
            refine INV_sh I ?_ (SH_move hSH hs ht (by omega) (by omega) e)
            rw [e]
            refine (((Sm.rf).row ?_).row (by decide)).row (by decide)
            rcases (show t = 0 ∨ t = 1 ∨ t = 2 ∨ t = 3 by omega) with rfl | rfl | rfl | rfl <;> decide
          have cc : ∀ c, c ≠ 61 + t → cpy m (61 + s) (61 + t) y y2 x c = m c := fun c h => upR_n h
          have fin : JM l g 2 mX12_move [rf g 68, .int (nI s), .int (nI y), .int (nI t), .int (nI y2), .int (nI x)] (cpy m (61 + s) (61 + t) y y2 x) (RS (some (.int (nI x))) INV) := by
            refine (p_move _ s t y y2 x hs ht (by rw [cc 77 (by omega)]; exact c1) (by rw [cc 77 (by omega)]; exact c2) (by rw [cc 77 (by omega)]; exact c3) (by omega) (by omega) (by rw [cc 78 (by omega), eK]; exact s3) (by rw [cc 78 (by omega), eL]; exact s4)).mono (RS_w (fun m2 q => key m2 (lfR (cpy m (61 + s) (61 + t) y y2 x) s y x) ?_))
            rw [q, cc 79 (by omega)]
          have k1 : ¬ m 65 s = 0 := by rw [a1]; exact c1
          have k2 : ¬ m 65 t = 0 := by rw [b1]; exact c2
          have k3 : m 65 s = m 65 t := by rw [a1, b1]; exact c3
          have k4 : 0 ≤ nI x ∧ 0 ≤ nI y ∧ nI x ≤ m 66 s ∧ nI y ≤ m 66 s - nI x := by rw [a2, eK]; exact s1
          have k5 : 0 ≤ nI x ∧ 0 ≤ nI y2 ∧ nI x ≤ m 66 t ∧ nI y2 ≤ m 66 t - nI x := by rw [b2, eL]; exact s2
          have hy : y + x ≤ 40 := by omega
          have hy2 : y2 + x ≤ 40 := by omega
          have done : JM l g 2 mX11_move [rf g 0, .int (nI s), .int (nI y), .int (nI t), .int (nI y2), .int (nI x)] m (RF (some (.int (nI x))) (cpy m (61 + s) (61 + t) y y2 x)) := by
            rcases (show s = 0 ∨ s = 1 ∨ s = 2 ∨ s = 3 by omega) with rfl | rfl | rfl | rfl <;> rcases (show t = 0 ∨ t = 1 ∨ t = 2 ∨ t = 3 by omega) with rfl | rfl | rfl | rfl
            · exact o_move_0_0 m y y2 x k1 k2 k3 hy hy2 k4 k5
            · exact o_move_0_1 m y y2 x k1 k2 k3 hy hy2 k4 k5
            · exact o_move_0_2 m y y2 x k1 k2 k3 hy hy2 k4 k5
            · exact o_move_0_3 m y y2 x k1 k2 k3 hy hy2 k4 k5
            · exact o_move_1_0 m y y2 x k1 k2 k3 hy hy2 k4 k5
            · exact o_move_1_1 m y y2 x k1 k2 k3 hy hy2 k4 k5
            · exact o_move_1_2 m y y2 x k1 k2 k3 hy hy2 k4 k5
            · exact o_move_1_3 m y y2 x k1 k2 k3 hy hy2 k4 k5
            · exact o_move_2_0 m y y2 x k1 k2 k3 hy hy2 k4 k5
            · exact o_move_2_1 m y y2 x k1 k2 k3 hy hy2 k4 k5
            · exact o_move_2_2 m y y2 x k1 k2 k3 hy hy2 k4 k5
            · exact o_move_2_3 m y y2 x k1 k2 k3 hy hy2 k4 k5
            · exact o_move_3_0 m y y2 x k1 k2 k3 hy hy2 k4 k5
            · exact o_move_3_1 m y y2 x k1 k2 k3 hy hy2 k4 k5
            · exact o_move_3_2 m y y2 x k1 k2 k3 hy hy2 k4 k5
            · exact o_move_3_3 m y y2 x k1 k2 k3 hy hy2 k4 k5
          exact ⟨2, 2, nI x, _, by decide, by decide, done, fun m' e => by subst e; exact fin⟩
        · exact OPr_err I (by decide) (by decide) (by decide) (e_move2 m s t i j n hs ht (by rw [a1]; exact c1) (by rw [b1]; exact c2) (by rw [a1, b1]; exact c3) (fun q => cs (by rw [a2, eK, b2, eL] at q; exact ⟨(stc hK).mp q.1, (stc hL).mp q.2⟩))) (f_move2 _ s t i j n hs ht (by rw [errC_o (by decide)]; exact c1) (by rw [errC_o (by decide)]; exact c2) (by rw [errC_o (by decide)]; exact c3) (fun q => cs (by rw [errC_o (by decide), eK, eL] at q; exact ⟨(stm hK).mp q.1, (stm hL).mp q.2⟩)))
      · exact OPr_err I (by decide) (by decide) (by decide) (e_move5 m s t i j n hs ht (by rw [a1]; exact c1) (by rw [b1]; exact c2) (by rw [a1, b1]; exact c3)) (f_move5 _ s t i j n hs ht (by rw [errC_o (by decide)]; exact c1) (by rw [errC_o (by decide)]; exact c2) (by rw [errC_o (by decide)]; exact c3))
  · exact OPr_err I (by decide) (by decide) (by decide) (e_move0 m a i b j n c) (f_move0 _ a i b j n c)
end O25
