/-! the sheets: put, judge, suns -/
def shS : List Nat := [61, 62, 63, 64, 65, 66, 77, 78, 79, 80]
theorem INV_sh {m m' : Mem} (I : INV m) (o : Sm shS m m') (h : ∀ s, s < 4 → SH m' s) : INV m' := by
  obtain ⟨hD, ⟨a1, a2, a3, a4⟩, b, c, -⟩ := I
  refine ⟨INVd_same hD (fun b hb => o b (fun q => ?_)), ⟨by rw [o 0 (by decide), o 68 (by decide)]; exact a1, fun q => ?_, by rw [o 50 (by decide)]; exact a3, by rw [o 54 (by decide)]; exact a4⟩, fun k k1 k2 => by rw [o 67 (by decide), o 72 (by decide)]; exact b k k1 k2, TRC_same c (by rw [o 58 (by decide)]) (o 59 (by decide)) (o 76 (by decide)) (by rw [o 68 (by decide)]), h⟩
  · simp only [shS, List.mem_cons, List.not_mem_nil, or_false] at q
    rcases q with rfl | rfl | rfl | rfl | rfl | rfl | rfl | rfl | rfl | rfl <;> exact absurd hb (by decide)
  · rw [o 68 (by decide)] at q
    obtain ⟨k1, k2, k3, k4⟩ := a2 q
    have e70 := o 70 (by decide)
    have n0 : ∀ b, b < 61 → m' b = m b := fun b hb => o b (by simp only [shS, List.mem_cons, List.not_mem_nil, or_false]; omega)
    exact ⟨by rw [e70]; exact k1, by rw [e70]; exact k2, by rw [e70]; exact TR_same k3 (fun b b1 b2 => n0 b (by omega)), by rw [e70]; exact PR_same k4 (fun b b1 => n0 b (by omega))⟩
def lowB (b v : Int32) : Int32 := if b = 8 then v.toInt8.toInt32 else if b = 16 then v.toInt16.toInt32 else v
theorem SH_put {m : Mem} {s i : Nat} {x : Int32} (h : ∀ t, t < 4 → SH m t) (hs : s < 4) (hi : i < 40) : ∀ t, t < 4 → SH (up2 (up2 m (61 + s) i x) 79 (40 * s + i) x) t := by
  intro t ht
  obtain ⟨a, b, c, d, e⟩ := h t ht
  have o : ∀ b, b ≠ 61 + s → b ≠ 79 → up2 (up2 m (61 + s) i x) 79 (40 * s + i) x b = m b := fun b h1 h2 => by rw [up2_r h2, up2_r h1]
  refine ⟨by rw [o 65 (by omega) (by decide), o 77 (by omega) (by decide)]; exact a, by rw [o 66 (by omega) (by decide), o 78 (by omega) (by decide)]; exact b, by rw [o 77 (by omega) (by decide)]; exact c, by rw [o 78 (by omega) (by decide)]; exact d, fun j hj => ?_⟩
  rw [up2_a (show 61 + t ≠ 79 by omega)]
  by_cases q : t = s
  · subst q
    by_cases z : j = i
    · subst z
      rw [up2_s, up2_s]
    · rw [up2_k z, up2_k (by omega), up2_a (by omega)]; exact e j hj
  · rw [up2_a (by omega), up2_k (by omega), up2_a (by omega)]; exact e j hj
theorem st1 {i : Int32} {K : Nat} (hK : K < 41) : ((0 : Int32) ≤ 1 ∧ 0 ≤ i ∧ 1 ≤ nI K ∧ i ≤ nI K - 1) ↔ (0 ≤ i ∧ i ≤ nI K - 1) := by
  refine ⟨fun q => ⟨q.2.1, q.2.2.2⟩, fun q => ⟨by decide, q.1, ?_, q.2⟩⟩
  by_cases z : K = 0
  · subst z
    exact absurd (Int32.le_trans q.1 q.2) (by decide)
  · exact nI_le (a := 1) (b := K) (by omega) (by omega)
section O21
variable {l : Launch} {g : Gv}
theorem j_ref {d : Nat} {y : MD} {pc : Nat} {ls : List (Option Value)} {st : List Value} {m : Mem} {Q : Option Value → Mem → Prop} {a b : Nat} (h : a = b) (kk : J l g d y pc ls (rf g b :: st) m Q) : J l g d y pc ls (rf g a :: st) m Q := by rw [h]; exact kk
set_option maxRecDepth 100000 in
theorem e_put0 (m : Mem) (s : Int32) (i v : Int32) (c : ¬ (0 ≤ s ∧ s ≤ 3)) : JM l g 2 mX11_put [rf g 0, .int s, .int i, .int v] m (RF (some (.int (-1000000001))) (errC 1 m)) := by
  refine JM_of (ls := [some (rf g 0), some (.int s), some (.int i), some (.int v)]) pn_X11 rfl rfl ?_
  refine j_iload1 1 dX11_put_0 rfl ?_
  refine j_st1f 4 dX11_put_1 rfl rfl cl_X11_230 rfl (c_isSheet m s) ?_
  refine j_if_ne_bz 14 7 dX11_put_4 rfl rfl (fun h4 => absurd h4 c) (fun h4 => ?_)
  refine j_aload0 8 dX11_put_7 rfl ?_
  refine j_ldc 10 dX11_put_8 rfl kc_X11_81 ?_
  refine j_vi1f 13 dX11_put_10 rfl rfl cl_X11_82 rfl rfl (c_err1 m) ?_
  refine j_iret dX11_put_13 rfl ?_
  exact ⟨rfl, rfl⟩
set_option maxRecDepth 100000 in
theorem f_put0 (m : Mem) (s : Int32) (i v : Int32) (c : ¬ (0 ≤ s ∧ s ≤ 3)) : JM l g 2 mX12_put [rf g 68, .int s, .int i, .int v] m (RF (some (.int (-1000000001))) (errM 1 m)) := by
  refine JM_of (ls := [some (rf g 68), some (.int s), some (.int i), some (.int v)]) pn_X12 rfl rfl ?_
  refine j_iload1 1 dX12_put_0 rfl ?_
  refine j_st1f 4 dX12_put_1 rfl rfl cl_X12_243 rfl (c_misSheet m s) ?_
  refine j_if_ne_bz 13 7 dX12_put_4 rfl rfl (fun h4 => absurd h4 c) (fun h4 => ?_)
  refine j_aload0 8 dX12_put_7 rfl ?_
  refine j_iconst 9 (v := 1) dX12_put_8 rfl rfl ?_
  refine j_vi1f 12 dX12_put_9 rfl rfl cl_X12_126 rfl rfl (c_finds1 m) ?_
  refine j_iret dX12_put_12 rfl ?_
  exact ⟨rfl, rfl⟩
set_option maxRecDepth 100000 in
theorem e_put1 (m : Mem) (s : Nat) (i v : Int32) (hs : s < 4) (hb : m 65 s = 0) : JM l g 2 mX11_put [rf g 0, .int (nI s), .int i, .int v] m (RF (some (.int (-1000000002))) (errC 2 m)) := by
  refine JM_of (ls := [some (rf g 0), some (.int (nI s)), some (.int i), some (.int v)]) pn_X11 rfl rfl ?_
  refine j_iload1 1 dX11_put_0 rfl ?_
  refine j_st1f 4 dX11_put_1 rfl rfl cl_X11_230 rfl (c_isSheet m _) ?_
  refine j_if_ne_bz 14 7 dX11_put_4 rfl rfl (fun h4 => ?_) (fun h4 => absurd ((rngN 3 (by decide)).mpr ⟨s, by omega, rfl⟩) h4)
  refine j_aload0 15 dX11_put_14 rfl ?_
  refine j_iload1 16 dX11_put_15 rfl ?_
  refine j_vi1f 19 dX11_put_16 rfl rfl cl_X11_233 rfl rfl (c_isMissing m s hs) ?_
  refine j_if_eq_bz 29 22 dX11_put_19 rfl rfl (fun h19 => absurd hb h19) (fun h19 => ?_)
  refine j_aload0 23 dX11_put_22 rfl ?_
  refine j_ldc 25 dX11_put_23 rfl kc_X11_223 ?_
  refine j_vi1f 28 dX11_put_25 rfl rfl cl_X11_82 rfl rfl (c_err2 m) ?_
  refine j_iret dX11_put_28 rfl ?_
  exact ⟨rfl, rfl⟩
set_option maxRecDepth 100000 in
theorem f_put1 (m : Mem) (s : Nat) (i v : Int32) (hs : s < 4) (hb : m 77 s = 0) : JM l g 2 mX12_put [rf g 68, .int (nI s), .int i, .int v] m (RF (some (.int (-1000000002))) (errM 2 m)) := by
  refine JM_of (ls := [some (rf g 68), some (.int (nI s)), some (.int i), some (.int v)]) pn_X12 rfl rfl ?_
  refine j_iload1 1 dX12_put_0 rfl ?_
  refine j_st1f 4 dX12_put_1 rfl rfl cl_X12_243 rfl (c_misSheet m _) ?_
  refine j_if_ne_bz 13 7 dX12_put_4 rfl rfl (fun h4 => ?_) (fun h4 => absurd ((rngN 3 (by decide)).mpr ⟨s, by omega, rfl⟩) h4)
  refine j_aload0 14 dX12_put_13 rfl ?_
  refine j_getR 17 dX12_put_14 rfl fl_X12_34 rfl rfl ?_
  refine j_iload1 18 dX12_put_17 rfl ?_
  refine j_iald 19 _ rfl hs dX12_put_18 rfl rfl ?_
  refine j_if_ne 28 22 dX12_put_19 rfl rfl (fun h19 => absurd h19 (fun q => q hb)) (fun h19 => ?_)
  refine j_aload0 23 dX12_put_22 rfl ?_
  refine j_iconst 24 (v := 2) dX12_put_23 rfl rfl ?_
  refine j_vi1f 27 dX12_put_24 rfl rfl cl_X12_126 rfl rfl (c_finds2 m) ?_
  refine j_iret dX12_put_27 rfl ?_
  exact ⟨rfl, rfl⟩
set_option maxRecDepth 100000 in
theorem e_suns0 (m : Mem) (s : Int32) (c : ¬ (0 ≤ s ∧ s ≤ 3)) : JM l g 2 mX11_suns [rf g 0, .int s] m (RF (some (.int (-1000000001))) (errC 1 m)) := by
  refine JM_of (ls := [some (rf g 0), some (.int s), none, none, none]) pn_X11 rfl rfl ?_
  refine j_iload1 1 dX11_suns_0 rfl ?_
  refine j_st1f 4 dX11_suns_1 rfl rfl cl_X11_230 rfl (c_isSheet m s) ?_
  refine j_if_ne_bz 14 7 dX11_suns_4 rfl rfl (fun h4 => absurd h4 c) (fun h4 => ?_)
  refine j_aload0 8 dX11_suns_7 rfl ?_
  refine j_ldc 10 dX11_suns_8 rfl kc_X11_81 ?_
  refine j_vi1f 13 dX11_suns_10 rfl rfl cl_X11_82 rfl rfl (c_err1 m) ?_
  refine j_iret dX11_suns_13 rfl ?_
  exact ⟨rfl, rfl⟩
set_option maxRecDepth 100000 in
theorem f_suns0 (m : Mem) (s : Int32) (c : ¬ (0 ≤ s ∧ s ≤ 3)) : JM l g 2 mX12_suns [rf g 68, .int s] m (RF (some (.int (-1000000001))) (errM 1 m)) := by
  refine JM_of (ls := [some (rf g 68), some (.int s), none]) pn_X12 rfl rfl ?_
  refine j_iload1 1 dX12_suns_0 rfl ?_
  refine j_st1f 4 dX12_suns_1 rfl rfl cl_X12_243 rfl (c_misSheet m s) ?_
  refine j_if_ne_bz 13 7 dX12_suns_4 rfl rfl (fun h4 => absurd h4 c) (fun h4 => ?_)
  refine j_aload0 8 dX12_suns_7 rfl ?_
  refine j_iconst 9 (v := 1) dX12_suns_8 rfl rfl ?_
  refine j_vi1f 12 dX12_suns_9 rfl rfl cl_X12_126 rfl rfl (c_finds1 m) ?_
  refine j_iret dX12_suns_12 rfl ?_
  exact ⟨rfl, rfl⟩
set_option maxRecDepth 100000 in
theorem e_suns1 (m : Mem) (s : Nat) (hs : s < 4) (hb : m 65 s = 0) : JM l g 2 mX11_suns [rf g 0, .int (nI s)] m (RF (some (.int (-1000000002))) (errC 2 m)) := by
  refine JM_of (ls := [some (rf g 0), some (.int (nI s)), none, none, none]) pn_X11 rfl rfl ?_
  refine j_iload1 1 dX11_suns_0 rfl ?_
  refine j_st1f 4 dX11_suns_1 rfl rfl cl_X11_230 rfl (c_isSheet m _) ?_
  refine j_if_ne_bz 14 7 dX11_suns_4 rfl rfl (fun h4 => ?_) (fun h4 => absurd ((rngN 3 (by decide)).mpr ⟨s, by omega, rfl⟩) h4)
  refine j_aload0 15 dX11_suns_14 rfl ?_
  refine j_iload1 16 dX11_suns_15 rfl ?_
  refine j_vi1f 19 dX11_suns_16 rfl rfl cl_X11_233 rfl rfl (c_isMissing m s hs) ?_
  refine j_if_eq_bz 29 22 dX11_suns_19 rfl rfl (fun h19 => absurd hb h19) (fun h19 => ?_)
  refine j_aload0 23 dX11_suns_22 rfl ?_
  refine j_ldc 25 dX11_suns_23 rfl kc_X11_223 ?_
  refine j_vi1f 28 dX11_suns_25 rfl rfl cl_X11_82 rfl rfl (c_err2 m) ?_
  refine j_iret dX11_suns_28 rfl ?_
  exact ⟨rfl, rfl⟩
set_option maxRecDepth 100000 in
theorem f_suns1 (m : Mem) (s : Nat) (hs : s < 4) (hb : m 77 s = 0) : JM l g 2 mX12_suns [rf g 68, .int (nI s)] m (RF (some (.int (-1000000002))) (errM 2 m)) := by
  refine JM_of (ls := [some (rf g 68), some (.int (nI s)), none]) pn_X12 rfl rfl ?_
  refine j_iload1 1 dX12_suns_0 rfl ?_
  refine j_st1f 4 dX12_suns_1 rfl rfl cl_X12_243 rfl (c_misSheet m _) ?_
  refine j_if_ne_bz 13 7 dX12_suns_4 rfl rfl (fun h4 => ?_) (fun h4 => absurd ((rngN 3 (by decide)).mpr ⟨s, by omega, rfl⟩) h4)
  refine j_aload0 14 dX12_suns_13 rfl ?_
  refine j_getR 17 dX12_suns_14 rfl fl_X12_34 rfl rfl ?_
  refine j_iload1 18 dX12_suns_17 rfl ?_
  refine j_iald 19 _ rfl hs dX12_suns_18 rfl rfl ?_
  refine j_if_ne 28 22 dX12_suns_19 rfl rfl (fun h19 => absurd h19 (fun q => q hb)) (fun h19 => ?_)
  refine j_aload0 23 dX12_suns_22 rfl ?_
  refine j_iconst 24 (v := 2) dX12_suns_23 rfl rfl ?_
  refine j_vi1f 27 dX12_suns_24 rfl rfl cl_X12_126 rfl rfl (c_finds2 m) ?_
  refine j_iret dX12_suns_27 rfl ?_
  exact ⟨rfl, rfl⟩
set_option maxRecDepth 100000 in
theorem e_judge0 (m : Mem) (s : Int32) (c : ¬ (0 ≤ s ∧ s ≤ 3)) : JM l g 2 mX11_judge [rf g 0, .int s] m (RF (some (.int (-1000000001))) (errC 1 m)) := by
  refine JM_of (ls := [some (rf g 0), some (.int s), none, none]) pn_X11 rfl rfl ?_
  refine j_iload1 1 dX11_judge_0 rfl ?_
  refine j_st1f 4 dX11_judge_1 rfl rfl cl_X11_230 rfl (c_isSheet m s) ?_
  refine j_if_ne_bz 14 7 dX11_judge_4 rfl rfl (fun h4 => absurd h4 c) (fun h4 => ?_)
  refine j_aload0 8 dX11_judge_7 rfl ?_
  refine j_ldc 10 dX11_judge_8 rfl kc_X11_81 ?_
  refine j_vi1f 13 dX11_judge_10 rfl rfl cl_X11_82 rfl rfl (c_err1 m) ?_
  refine j_iret dX11_judge_13 rfl ?_
  exact ⟨rfl, rfl⟩
set_option maxRecDepth 100000 in
theorem f_judge0 (m : Mem) (s : Int32) (c : ¬ (0 ≤ s ∧ s ≤ 3)) : JM l g 2 mX12_judge [rf g 68, .int s] m (RF (some (.int (-1000000001))) (errM 1 m)) := by
  refine JM_of (ls := [some (rf g 68), some (.int s), none]) pn_X12 rfl rfl ?_
  refine j_iload1 1 dX12_judge_0 rfl ?_
  refine j_st1f 4 dX12_judge_1 rfl rfl cl_X12_243 rfl (c_misSheet m s) ?_
  refine j_if_ne_bz 13 7 dX12_judge_4 rfl rfl (fun h4 => absurd h4 c) (fun h4 => ?_)
  refine j_aload0 8 dX12_judge_7 rfl ?_
  refine j_iconst 9 (v := 1) dX12_judge_8 rfl rfl ?_
  refine j_vi1f 12 dX12_judge_9 rfl rfl cl_X12_126 rfl rfl (c_finds1 m) ?_
  refine j_iret dX12_judge_12 rfl ?_
  exact ⟨rfl, rfl⟩
set_option maxRecDepth 100000 in
theorem e_judge1 (m : Mem) (s : Nat) (hs : s < 4) (hb : m 65 s = 0) : JM l g 2 mX11_judge [rf g 0, .int (nI s)] m (RF (some (.int (-1000000002))) (errC 2 m)) := by
  refine JM_of (ls := [some (rf g 0), some (.int (nI s)), none, none]) pn_X11 rfl rfl ?_
  refine j_iload1 1 dX11_judge_0 rfl ?_
  refine j_st1f 4 dX11_judge_1 rfl rfl cl_X11_230 rfl (c_isSheet m _) ?_
  refine j_if_ne_bz 14 7 dX11_judge_4 rfl rfl (fun h4 => ?_) (fun h4 => absurd ((rngN 3 (by decide)).mpr ⟨s, by omega, rfl⟩) h4)
  refine j_aload0 15 dX11_judge_14 rfl ?_
  refine j_iload1 16 dX11_judge_15 rfl ?_
  refine j_vi1f 19 dX11_judge_16 rfl rfl cl_X11_233 rfl rfl (c_isMissing m s hs) ?_
  refine j_if_eq_bz 29 22 dX11_judge_19 rfl rfl (fun h19 => absurd hb h19) (fun h19 => ?_)
  refine j_aload0 23 dX11_judge_22 rfl ?_
  refine j_ldc 25 dX11_judge_23 rfl kc_X11_223 ?_
  refine j_vi1f 28 dX11_judge_25 rfl rfl cl_X11_82 rfl rfl (c_err2 m) ?_
  refine j_iret dX11_judge_28 rfl ?_
  exact ⟨rfl, rfl⟩
set_option maxRecDepth 100000 in
theorem f_judge1 (m : Mem) (s : Nat) (hs : s < 4) (hb : m 77 s = 0) : JM l g 2 mX12_judge [rf g 68, .int (nI s)] m (RF (some (.int (-1000000002))) (errM 2 m)) := by
  refine JM_of (ls := [some (rf g 68), some (.int (nI s)), none]) pn_X12 rfl rfl ?_
  refine j_iload1 1 dX12_judge_0 rfl ?_
  refine j_st1f 4 dX12_judge_1 rfl rfl cl_X12_243 rfl (c_misSheet m _) ?_
  refine j_if_ne_bz 13 7 dX12_judge_4 rfl rfl (fun h4 => ?_) (fun h4 => absurd ((rngN 3 (by decide)).mpr ⟨s, by omega, rfl⟩) h4)
  refine j_aload0 14 dX12_judge_13 rfl ?_
  refine j_getR 17 dX12_judge_14 rfl fl_X12_34 rfl rfl ?_
  refine j_iload1 18 dX12_judge_17 rfl ?_
  refine j_iald 19 _ rfl hs dX12_judge_18 rfl rfl ?_
  refine j_if_ne 28 22 dX12_judge_19 rfl rfl (fun h19 => absurd h19 (fun q => q hb)) (fun h19 => ?_)
  refine j_aload0 23 dX12_judge_22 rfl ?_
  refine j_iconst 24 (v := 2) dX12_judge_23 rfl rfl ?_
  refine j_vi1f 27 dX12_judge_24 rfl rfl cl_X12_126 rfl rfl (c_finds2 m) ?_
  refine j_iret dX12_judge_27 rfl ?_
  exact ⟨rfl, rfl⟩
set_option maxRecDepth 100000 in
theorem e_put2 (m : Mem) (s : Nat) (i v : Int32) (hs : s < 4) (hb : ¬ m 65 s = 0) (c : ¬ ((0 : Int32) ≤ 1 ∧ 0 ≤ i ∧ 1 ≤ m 66 s ∧ i ≤ m 66 s - 1)) : JM l g 2 mX11_put [rf g 0, .int (nI s), .int i, .int v] m (RF (some (.int (-1000000001))) (errC 1 m)) := by
  refine JM_of (ls := [some (rf g 0), some (.int (nI s)), some (.int i), some (.int v)]) pn_X11 rfl rfl ?_
  refine j_iload1 1 dX11_put_0 rfl ?_
  refine j_st1f 4 dX11_put_1 rfl rfl cl_X11_230 rfl (c_isSheet m _) ?_
  refine j_if_ne_bz 14 7 dX11_put_4 rfl rfl (fun h4 => ?_) (fun h4 => absurd ((rngN 3 (by decide)).mpr ⟨s, by omega, rfl⟩) h4)
  refine j_aload0 15 dX11_put_14 rfl ?_
  refine j_iload1 16 dX11_put_15 rfl ?_
  refine j_vi1f 19 dX11_put_16 rfl rfl cl_X11_233 rfl rfl (c_isMissing m s hs) ?_
  refine j_if_eq_bz 29 22 dX11_put_19 rfl rfl (fun h19 => ?_) (fun h19 => absurd h19 hb)
  refine j_aload0 30 dX11_put_29 rfl ?_
  refine j_iload1 31 dX11_put_30 rfl ?_
  refine j_iload2 32 dX11_put_31 rfl ?_
  refine j_iconst 33 (v := 1) dX11_put_32 rfl rfl ?_
  refine j_vi3f 36 dX11_put_33 rfl rfl cl_X11_285 rfl rfl (c_stand m s hs i 1) ?_
  refine j_if_ne_bz 46 39 dX11_put_36 rfl rfl (fun h36 => absurd h36 c) (fun h36 => ?_)
  refine j_aload0 40 dX11_put_39 rfl ?_
  refine j_ldc 42 dX11_put_40 rfl kc_X11_81 ?_
  refine j_vi1f 45 dX11_put_42 rfl rfl cl_X11_82 rfl rfl (c_err1 m) ?_
  refine j_iret dX11_put_45 rfl ?_
  exact ⟨rfl, rfl⟩
set_option maxRecDepth 100000 in
theorem f_put2 (m : Mem) (s : Nat) (i v : Int32) (hs : s < 4) (hb : ¬ m 77 s = 0) (c : ¬ (0 ≤ i ∧ i ≤ m 78 s - 1)) : JM l g 2 mX12_put [rf g 68, .int (nI s), .int i, .int v] m (RF (some (.int (-1000000001))) (errM 1 m)) := by
  refine JM_of (ls := [some (rf g 68), some (.int (nI s)), some (.int i), some (.int v)]) pn_X12 rfl rfl ?_
  refine j_iload1 1 dX12_put_0 rfl ?_
  refine j_st1f 4 dX12_put_1 rfl rfl cl_X12_243 rfl (c_misSheet m _) ?_
  refine j_if_ne_bz 13 7 dX12_put_4 rfl rfl (fun h4 => ?_) (fun h4 => absurd ((rngN 3 (by decide)).mpr ⟨s, by omega, rfl⟩) h4)
  refine j_aload0 14 dX12_put_13 rfl ?_
  refine j_getR 17 dX12_put_14 rfl fl_X12_34 rfl rfl ?_
  refine j_iload1 18 dX12_put_17 rfl ?_
  refine j_iald 19 _ rfl hs dX12_put_18 rfl rfl ?_
  refine j_if_ne 28 22 dX12_put_19 rfl rfl (fun h19 => ?_) (fun h19 => absurd h19 hb)
  refine j_iload2 29 dX12_put_28 rfl ?_
  refine j_i2l 30 dX12_put_29 rfl ?_
  refine j_lconst 31 (v := 0) dX12_put_30 rfl rfl ?_
  refine j_aload0 32 dX12_put_31 rfl ?_
  refine j_getR 35 dX12_put_32 rfl fl_X12_37 rfl rfl ?_
  refine j_iload1 36 dX12_put_35 rfl ?_
  refine j_iald 37 _ rfl hs dX12_put_36 rfl rfl ?_
  refine j_iconst 38 (v := 1) dX12_put_37 rfl rfl ?_
  refine j_isub 39 dX12_put_38 rfl ?_
  refine j_i2l 40 dX12_put_39 rfl ?_
  refine j_st3f 43 dX12_put_40 rfl rfl cl_X12_47 rfl (c_in m i 0 _) ?_
  refine j_if_ne_bz 52 46 dX12_put_43 rfl rfl (fun h43 => absurd h43 c) (fun h43 => ?_)
  refine j_aload0 47 dX12_put_46 rfl ?_
  refine j_iconst 48 (v := 1) dX12_put_47 rfl rfl ?_
  refine j_vi1f 51 dX12_put_48 rfl rfl cl_X12_126 rfl rfl (c_finds1 m) ?_
  refine j_iret dX12_put_51 rfl ?_
  exact ⟨rfl, rfl⟩
set_option maxRecDepth 100000 in
theorem o_put_0 (m : Mem) (i : Nat) (v : Int32) (hi : i < 40) (hb : ¬ m 65 0 = 0) (c : (0 : Int32) ≤ 1 ∧ 0 ≤ nI i ∧ 1 ≤ m 66 0 ∧ nI i ≤ m 66 0 - 1) : JM l g 2 mX11_put [rf g 0, .int (nI 0), .int (nI i), .int v] m (RF (some (.int 1)) (up2 m 61 i (lowB (m 65 0) v))) := by
  refine JM_of (ls := [some (rf g 0), some (.int (nI 0)), some (.int (nI i)), some (.int v)]) pn_X11 rfl rfl ?_
  refine j_iload1 1 dX11_put_0 rfl ?_
  refine j_st1f 4 dX11_put_1 rfl rfl cl_X11_230 rfl (c_isSheet m _) ?_
  refine j_if_ne_bz 14 7 dX11_put_4 rfl rfl (fun h4 => ?_) (fun h4 => absurd (by decide) h4)
  refine j_aload0 15 dX11_put_14 rfl ?_
  refine j_iload1 16 dX11_put_15 rfl ?_
  refine j_vi1f 19 dX11_put_16 rfl rfl cl_X11_233 rfl rfl (c_isMissing m 0 (by decide)) ?_
  refine j_if_eq_bz 29 22 dX11_put_19 rfl rfl (fun h19 => ?_) (fun h19 => absurd h19 hb)
  refine j_aload0 30 dX11_put_29 rfl ?_
  refine j_iload1 31 dX11_put_30 rfl ?_
  refine j_iload2 32 dX11_put_31 rfl ?_
  refine j_iconst 33 (v := 1) dX11_put_32 rfl rfl ?_
  refine j_vi3f 36 dX11_put_33 rfl rfl cl_X11_285 rfl rfl (c_stand m 0 (by decide) (nI i) 1) ?_
  refine j_if_ne_bz 46 39 dX11_put_36 rfl rfl (fun h36 => ?_) (fun h36 => absurd c h36)
  refine j_aload0 47 dX11_put_46 rfl ?_
  refine j_getR 50 dX11_put_47 rfl fl_X11_64 rfl rfl ?_
  refine j_iload1 51 dX11_put_50 rfl ?_
  refine j_aald 52 0 rfl (by decide) dX11_put_51 rfl (by decide) ?_
  refine j_ref (b := 61) (by decide) ?_
  refine j_iload2 53 dX11_put_52 rfl ?_
  refine j_aload0 54 dX11_put_53 rfl ?_
  refine j_getR 57 dX11_put_54 rfl fl_X11_67 rfl rfl ?_
  refine j_iload1 58 dX11_put_57 rfl ?_
  refine j_iald 59 0 rfl (by decide) dX11_put_58 rfl rfl ?_
  refine j_iload3 60 dX11_put_59 rfl ?_
  refine j_st2f 63 dX11_put_60 rfl rfl cl_X11_288 rfl (c_lowest m _ v) ?_
  refine j_iast 64 i rfl hi dX11_put_63 rfl rfl ?_
  refine j_iconst 65 (v := 1) dX11_put_64 rfl rfl ?_
  refine j_iret dX11_put_65 rfl ?_
  exact ⟨rfl, rfl⟩
set_option maxRecDepth 100000 in
theorem p_put_0 (m : Mem) (i : Nat) (v : Int32) (hi : i < 40) (hb : ¬ m 77 0 = 0) (c : 0 ≤ nI i ∧ nI i ≤ m 78 0 - 1) : JM l g 2 mX12_put [rf g 68, .int (nI 0), .int (nI i), .int v] m (RF (some (.int 1)) (up2 m 79 (40 * 0 + i) (lowB (m 77 0) v))) := by
  refine JM_of (ls := [some (rf g 68), some (.int (nI 0)), some (.int (nI i)), some (.int v)]) pn_X12 rfl rfl ?_
  refine j_iload1 1 dX12_put_0 rfl ?_
  refine j_st1f 4 dX12_put_1 rfl rfl cl_X12_243 rfl (c_misSheet m _) ?_
  refine j_if_ne_bz 13 7 dX12_put_4 rfl rfl (fun h4 => ?_) (fun h4 => absurd (by decide) h4)
  refine j_aload0 14 dX12_put_13 rfl ?_
  refine j_getR 17 dX12_put_14 rfl fl_X12_34 rfl rfl ?_
  refine j_iload1 18 dX12_put_17 rfl ?_
  refine j_iald 19 0 rfl (by decide) dX12_put_18 rfl rfl ?_
  refine j_if_ne 28 22 dX12_put_19 rfl rfl (fun h19 => ?_) (fun h19 => absurd h19 hb)
  refine j_iload2 29 dX12_put_28 rfl ?_
  refine j_i2l 30 dX12_put_29 rfl ?_
  refine j_lconst 31 (v := 0) dX12_put_30 rfl rfl ?_
  refine j_aload0 32 dX12_put_31 rfl ?_
  refine j_getR 35 dX12_put_32 rfl fl_X12_37 rfl rfl ?_
  refine j_iload1 36 dX12_put_35 rfl ?_
  refine j_iald 37 0 rfl (by decide) dX12_put_36 rfl rfl ?_
  refine j_iconst 38 (v := 1) dX12_put_37 rfl rfl ?_
  refine j_isub 39 dX12_put_38 rfl ?_
  refine j_i2l 40 dX12_put_39 rfl ?_
  refine j_st3f 43 dX12_put_40 rfl rfl cl_X12_47 rfl (c_in m _ 0 _) ?_
  refine j_if_ne_bz 52 46 dX12_put_43 rfl rfl (fun h43 => ?_) (fun h43 => absurd c h43)
  refine j_aload0 53 dX12_put_52 rfl ?_
  refine j_getR 56 dX12_put_53 rfl fl_X12_40 rfl rfl ?_
  refine j_bipush 58 (v := nI 40) dX12_put_56 rfl rfl ?_
  refine j_iload1 59 dX12_put_58 rfl ?_
  refine j_imulN 60 dX12_put_59 rfl ?_
  refine j_iload2 61 dX12_put_60 rfl ?_
  refine j_iaddN 62 dX12_put_61 rfl ?_
  refine j_aload0 63 dX12_put_62 rfl ?_
  refine j_getR 66 dX12_put_63 rfl fl_X12_34 rfl rfl ?_
  refine j_iload1 67 dX12_put_66 rfl ?_
  refine j_iald 68 0 rfl (by decide) dX12_put_67 rfl rfl ?_
  refine j_bipush 70 (v := 8) dX12_put_68 rfl rfl ?_
  refine j_cmp_ne 78 73 dX12_put_70 rfl rfl (fun h70 => ?_) (fun h70 => ?_)
  · refine j_aload0 79 dX12_put_78 rfl ?_
    refine j_getR 82 dX12_put_79 rfl fl_X12_34 rfl rfl ?_
    refine j_iload1 83 dX12_put_82 rfl ?_
    refine j_iald 84 0 rfl (by decide) dX12_put_83 rfl rfl ?_
    refine j_bipush 86 (v := 16) dX12_put_84 rfl rfl ?_
    refine j_cmp_ne 94 89 dX12_put_86 rfl rfl (fun h86 => ?_) (fun h86 => ?_)
    · refine j_iload3 95 dX12_put_94 rfl ?_
      refine j_iast 96 (40 * 0 + i) rfl (show 40 * 0 + i < 160 by omega) dX12_put_95 rfl rfl ?_
      refine j_iconst 97 (v := 1) dX12_put_96 rfl rfl ?_
      refine j_iret dX12_put_97 rfl ?_
      first | exact ⟨rfl, by unfold lowB; rw [if_pos h70]⟩ | exact ⟨rfl, by unfold lowB; rw [if_neg h70, if_pos h86]⟩ | exact ⟨rfl, by unfold lowB; rw [if_neg h70, if_neg h86]⟩
    · refine j_iload3 90 dX12_put_89 rfl ?_
      refine j_i2s 91 dX12_put_90 rfl ?_
      refine j_goto 95 dX12_put_91 rfl ?_
      refine j_iast 96 (40 * 0 + i) rfl (show 40 * 0 + i < 160 by omega) dX12_put_95 rfl rfl ?_
      refine j_iconst 97 (v := 1) dX12_put_96 rfl rfl ?_
      refine j_iret dX12_put_97 rfl ?_
      first | exact ⟨rfl, by unfold lowB; rw [if_pos h70]⟩ | exact ⟨rfl, by unfold lowB; rw [if_neg h70, if_pos h86]⟩ | exact ⟨rfl, by unfold lowB; rw [if_neg h70, if_neg h86]⟩
  · refine j_iload3 74 dX12_put_73 rfl ?_
    refine j_i2b 75 dX12_put_74 rfl ?_
    refine j_goto 95 dX12_put_75 rfl ?_
    refine j_iast 96 (40 * 0 + i) rfl (show 40 * 0 + i < 160 by omega) dX12_put_95 rfl rfl ?_
    refine j_iconst 97 (v := 1) dX12_put_96 rfl rfl ?_
    refine j_iret dX12_put_97 rfl ?_
    first | exact ⟨rfl, by unfold lowB; rw [if_pos h70]⟩ | exact ⟨rfl, by unfold lowB; rw [if_neg h70, if_pos h86]⟩ | exact ⟨rfl, by unfold lowB; rw [if_neg h70, if_neg h86]⟩
set_option maxRecDepth 100000 in
theorem o_put_1 (m : Mem) (i : Nat) (v : Int32) (hi : i < 40) (hb : ¬ m 65 1 = 0) (c : (0 : Int32) ≤ 1 ∧ 0 ≤ nI i ∧ 1 ≤ m 66 1 ∧ nI i ≤ m 66 1 - 1) : JM l g 2 mX11_put [rf g 0, .int (nI 1), .int (nI i), .int v] m (RF (some (.int 1)) (up2 m 62 i (lowB (m 65 1) v))) := by
  refine JM_of (ls := [some (rf g 0), some (.int (nI 1)), some (.int (nI i)), some (.int v)]) pn_X11 rfl rfl ?_
  refine j_iload1 1 dX11_put_0 rfl ?_
  refine j_st1f 4 dX11_put_1 rfl rfl cl_X11_230 rfl (c_isSheet m _) ?_
  refine j_if_ne_bz 14 7 dX11_put_4 rfl rfl (fun h4 => ?_) (fun h4 => absurd (by decide) h4)
  refine j_aload0 15 dX11_put_14 rfl ?_
  refine j_iload1 16 dX11_put_15 rfl ?_
  refine j_vi1f 19 dX11_put_16 rfl rfl cl_X11_233 rfl rfl (c_isMissing m 1 (by decide)) ?_
  refine j_if_eq_bz 29 22 dX11_put_19 rfl rfl (fun h19 => ?_) (fun h19 => absurd h19 hb)
  refine j_aload0 30 dX11_put_29 rfl ?_
  refine j_iload1 31 dX11_put_30 rfl ?_
  refine j_iload2 32 dX11_put_31 rfl ?_
  refine j_iconst 33 (v := 1) dX11_put_32 rfl rfl ?_
  refine j_vi3f 36 dX11_put_33 rfl rfl cl_X11_285 rfl rfl (c_stand m 1 (by decide) (nI i) 1) ?_
  refine j_if_ne_bz 46 39 dX11_put_36 rfl rfl (fun h36 => ?_) (fun h36 => absurd c h36)
  refine j_aload0 47 dX11_put_46 rfl ?_
  refine j_getR 50 dX11_put_47 rfl fl_X11_64 rfl rfl ?_
  refine j_iload1 51 dX11_put_50 rfl ?_
  refine j_aald 52 1 rfl (by decide) dX11_put_51 rfl (by decide) ?_
  refine j_ref (b := 62) (by decide) ?_
  refine j_iload2 53 dX11_put_52 rfl ?_
  refine j_aload0 54 dX11_put_53 rfl ?_
  refine j_getR 57 dX11_put_54 rfl fl_X11_67 rfl rfl ?_
  refine j_iload1 58 dX11_put_57 rfl ?_
  refine j_iald 59 1 rfl (by decide) dX11_put_58 rfl rfl ?_
  refine j_iload3 60 dX11_put_59 rfl ?_
  refine j_st2f 63 dX11_put_60 rfl rfl cl_X11_288 rfl (c_lowest m _ v) ?_
  refine j_iast 64 i rfl hi dX11_put_63 rfl rfl ?_
  refine j_iconst 65 (v := 1) dX11_put_64 rfl rfl ?_
  refine j_iret dX11_put_65 rfl ?_
  exact ⟨rfl, rfl⟩
set_option maxRecDepth 100000 in
theorem p_put_1 (m : Mem) (i : Nat) (v : Int32) (hi : i < 40) (hb : ¬ m 77 1 = 0) (c : 0 ≤ nI i ∧ nI i ≤ m 78 1 - 1) : JM l g 2 mX12_put [rf g 68, .int (nI 1), .int (nI i), .int v] m (RF (some (.int 1)) (up2 m 79 (40 * 1 + i) (lowB (m 77 1) v))) := by
  refine JM_of (ls := [some (rf g 68), some (.int (nI 1)), some (.int (nI i)), some (.int v)]) pn_X12 rfl rfl ?_
  refine j_iload1 1 dX12_put_0 rfl ?_
  refine j_st1f 4 dX12_put_1 rfl rfl cl_X12_243 rfl (c_misSheet m _) ?_
  refine j_if_ne_bz 13 7 dX12_put_4 rfl rfl (fun h4 => ?_) (fun h4 => absurd (by decide) h4)
  refine j_aload0 14 dX12_put_13 rfl ?_
  refine j_getR 17 dX12_put_14 rfl fl_X12_34 rfl rfl ?_
  refine j_iload1 18 dX12_put_17 rfl ?_
  refine j_iald 19 1 rfl (by decide) dX12_put_18 rfl rfl ?_
  refine j_if_ne 28 22 dX12_put_19 rfl rfl (fun h19 => ?_) (fun h19 => absurd h19 hb)
  refine j_iload2 29 dX12_put_28 rfl ?_
  refine j_i2l 30 dX12_put_29 rfl ?_
  refine j_lconst 31 (v := 0) dX12_put_30 rfl rfl ?_
  refine j_aload0 32 dX12_put_31 rfl ?_
  refine j_getR 35 dX12_put_32 rfl fl_X12_37 rfl rfl ?_
  refine j_iload1 36 dX12_put_35 rfl ?_
  refine j_iald 37 1 rfl (by decide) dX12_put_36 rfl rfl ?_
  refine j_iconst 38 (v := 1) dX12_put_37 rfl rfl ?_
  refine j_isub 39 dX12_put_38 rfl ?_
  refine j_i2l 40 dX12_put_39 rfl ?_
  refine j_st3f 43 dX12_put_40 rfl rfl cl_X12_47 rfl (c_in m _ 0 _) ?_
  refine j_if_ne_bz 52 46 dX12_put_43 rfl rfl (fun h43 => ?_) (fun h43 => absurd c h43)
  refine j_aload0 53 dX12_put_52 rfl ?_
  refine j_getR 56 dX12_put_53 rfl fl_X12_40 rfl rfl ?_
  refine j_bipush 58 (v := nI 40) dX12_put_56 rfl rfl ?_
  refine j_iload1 59 dX12_put_58 rfl ?_
  refine j_imulN 60 dX12_put_59 rfl ?_
  refine j_iload2 61 dX12_put_60 rfl ?_
  refine j_iaddN 62 dX12_put_61 rfl ?_
  refine j_aload0 63 dX12_put_62 rfl ?_
  refine j_getR 66 dX12_put_63 rfl fl_X12_34 rfl rfl ?_
  refine j_iload1 67 dX12_put_66 rfl ?_
  refine j_iald 68 1 rfl (by decide) dX12_put_67 rfl rfl ?_
  refine j_bipush 70 (v := 8) dX12_put_68 rfl rfl ?_
  refine j_cmp_ne 78 73 dX12_put_70 rfl rfl (fun h70 => ?_) (fun h70 => ?_)
  · refine j_aload0 79 dX12_put_78 rfl ?_
    refine j_getR 82 dX12_put_79 rfl fl_X12_34 rfl rfl ?_
    refine j_iload1 83 dX12_put_82 rfl ?_
    refine j_iald 84 1 rfl (by decide) dX12_put_83 rfl rfl ?_
    refine j_bipush 86 (v := 16) dX12_put_84 rfl rfl ?_
    refine j_cmp_ne 94 89 dX12_put_86 rfl rfl (fun h86 => ?_) (fun h86 => ?_)
    · refine j_iload3 95 dX12_put_94 rfl ?_
      refine j_iast 96 (40 * 1 + i) rfl (show 40 * 1 + i < 160 by omega) dX12_put_95 rfl rfl ?_
      refine j_iconst 97 (v := 1) dX12_put_96 rfl rfl ?_
      refine j_iret dX12_put_97 rfl ?_
      first | exact ⟨rfl, by unfold lowB; rw [if_pos h70]⟩ | exact ⟨rfl, by unfold lowB; rw [if_neg h70, if_pos h86]⟩ | exact ⟨rfl, by unfold lowB; rw [if_neg h70, if_neg h86]⟩
    · refine j_iload3 90 dX12_put_89 rfl ?_
      refine j_i2s 91 dX12_put_90 rfl ?_
      refine j_goto 95 dX12_put_91 rfl ?_
      refine j_iast 96 (40 * 1 + i) rfl (show 40 * 1 + i < 160 by omega) dX12_put_95 rfl rfl ?_
      refine j_iconst 97 (v := 1) dX12_put_96 rfl rfl ?_
      refine j_iret dX12_put_97 rfl ?_
      first | exact ⟨rfl, by unfold lowB; rw [if_pos h70]⟩ | exact ⟨rfl, by unfold lowB; rw [if_neg h70, if_pos h86]⟩ | exact ⟨rfl, by unfold lowB; rw [if_neg h70, if_neg h86]⟩
  · refine j_iload3 74 dX12_put_73 rfl ?_
    refine j_i2b 75 dX12_put_74 rfl ?_
    refine j_goto 95 dX12_put_75 rfl ?_
    refine j_iast 96 (40 * 1 + i) rfl (show 40 * 1 + i < 160 by omega) dX12_put_95 rfl rfl ?_
    refine j_iconst 97 (v := 1) dX12_put_96 rfl rfl ?_
    refine j_iret dX12_put_97 rfl ?_
    first | exact ⟨rfl, by unfold lowB; rw [if_pos h70]⟩ | exact ⟨rfl, by unfold lowB; rw [if_neg h70, if_pos h86]⟩ | exact ⟨rfl, by unfold lowB; rw [if_neg h70, if_neg h86]⟩
set_option maxRecDepth 100000 in
theorem o_put_2 (m : Mem) (i : Nat) (v : Int32) (hi : i < 40) (hb : ¬ m 65 2 = 0) (c : (0 : Int32) ≤ 1 ∧ 0 ≤ nI i ∧ 1 ≤ m 66 2 ∧ nI i ≤ m 66 2 - 1) : JM l g 2 mX11_put [rf g 0, .int (nI 2), .int (nI i), .int v] m (RF (some (.int 1)) (up2 m 63 i (lowB (m 65 2) v))) := by
  refine JM_of (ls := [some (rf g 0), some (.int (nI 2)), some (.int (nI i)), some (.int v)]) pn_X11 rfl rfl ?_
  refine j_iload1 1 dX11_put_0 rfl ?_
  refine j_st1f 4 dX11_put_1 rfl rfl cl_X11_230 rfl (c_isSheet m _) ?_
  refine j_if_ne_bz 14 7 dX11_put_4 rfl rfl (fun h4 => ?_) (fun h4 => absurd (by decide) h4)
  refine j_aload0 15 dX11_put_14 rfl ?_
  refine j_iload1 16 dX11_put_15 rfl ?_
  refine j_vi1f 19 dX11_put_16 rfl rfl cl_X11_233 rfl rfl (c_isMissing m 2 (by decide)) ?_
  refine j_if_eq_bz 29 22 dX11_put_19 rfl rfl (fun h19 => ?_) (fun h19 => absurd h19 hb)
  refine j_aload0 30 dX11_put_29 rfl ?_
  refine j_iload1 31 dX11_put_30 rfl ?_
  refine j_iload2 32 dX11_put_31 rfl ?_
  refine j_iconst 33 (v := 1) dX11_put_32 rfl rfl ?_
  refine j_vi3f 36 dX11_put_33 rfl rfl cl_X11_285 rfl rfl (c_stand m 2 (by decide) (nI i) 1) ?_
  refine j_if_ne_bz 46 39 dX11_put_36 rfl rfl (fun h36 => ?_) (fun h36 => absurd c h36)
  refine j_aload0 47 dX11_put_46 rfl ?_
  refine j_getR 50 dX11_put_47 rfl fl_X11_64 rfl rfl ?_
  refine j_iload1 51 dX11_put_50 rfl ?_
  refine j_aald 52 2 rfl (by decide) dX11_put_51 rfl (by decide) ?_
  refine j_ref (b := 63) (by decide) ?_
  refine j_iload2 53 dX11_put_52 rfl ?_
  refine j_aload0 54 dX11_put_53 rfl ?_
  refine j_getR 57 dX11_put_54 rfl fl_X11_67 rfl rfl ?_
  refine j_iload1 58 dX11_put_57 rfl ?_
  refine j_iald 59 2 rfl (by decide) dX11_put_58 rfl rfl ?_
  refine j_iload3 60 dX11_put_59 rfl ?_
  refine j_st2f 63 dX11_put_60 rfl rfl cl_X11_288 rfl (c_lowest m _ v) ?_
  refine j_iast 64 i rfl hi dX11_put_63 rfl rfl ?_
  refine j_iconst 65 (v := 1) dX11_put_64 rfl rfl ?_
  refine j_iret dX11_put_65 rfl ?_
  exact ⟨rfl, rfl⟩
set_option maxRecDepth 100000 in
theorem p_put_2 (m : Mem) (i : Nat) (v : Int32) (hi : i < 40) (hb : ¬ m 77 2 = 0) (c : 0 ≤ nI i ∧ nI i ≤ m 78 2 - 1) : JM l g 2 mX12_put [rf g 68, .int (nI 2), .int (nI i), .int v] m (RF (some (.int 1)) (up2 m 79 (40 * 2 + i) (lowB (m 77 2) v))) := by
  refine JM_of (ls := [some (rf g 68), some (.int (nI 2)), some (.int (nI i)), some (.int v)]) pn_X12 rfl rfl ?_
  refine j_iload1 1 dX12_put_0 rfl ?_
  refine j_st1f 4 dX12_put_1 rfl rfl cl_X12_243 rfl (c_misSheet m _) ?_
  refine j_if_ne_bz 13 7 dX12_put_4 rfl rfl (fun h4 => ?_) (fun h4 => absurd (by decide) h4)
  refine j_aload0 14 dX12_put_13 rfl ?_
  refine j_getR 17 dX12_put_14 rfl fl_X12_34 rfl rfl ?_
  refine j_iload1 18 dX12_put_17 rfl ?_
  refine j_iald 19 2 rfl (by decide) dX12_put_18 rfl rfl ?_
  refine j_if_ne 28 22 dX12_put_19 rfl rfl (fun h19 => ?_) (fun h19 => absurd h19 hb)
  refine j_iload2 29 dX12_put_28 rfl ?_
  refine j_i2l 30 dX12_put_29 rfl ?_
  refine j_lconst 31 (v := 0) dX12_put_30 rfl rfl ?_
  refine j_aload0 32 dX12_put_31 rfl ?_
  refine j_getR 35 dX12_put_32 rfl fl_X12_37 rfl rfl ?_
  refine j_iload1 36 dX12_put_35 rfl ?_
  refine j_iald 37 2 rfl (by decide) dX12_put_36 rfl rfl ?_
  refine j_iconst 38 (v := 1) dX12_put_37 rfl rfl ?_
  refine j_isub 39 dX12_put_38 rfl ?_
  refine j_i2l 40 dX12_put_39 rfl ?_
  refine j_st3f 43 dX12_put_40 rfl rfl cl_X12_47 rfl (c_in m _ 0 _) ?_
  refine j_if_ne_bz 52 46 dX12_put_43 rfl rfl (fun h43 => ?_) (fun h43 => absurd c h43)
  refine j_aload0 53 dX12_put_52 rfl ?_
  refine j_getR 56 dX12_put_53 rfl fl_X12_40 rfl rfl ?_
  refine j_bipush 58 (v := nI 40) dX12_put_56 rfl rfl ?_
  refine j_iload1 59 dX12_put_58 rfl ?_
  refine j_imulN 60 dX12_put_59 rfl ?_
  refine j_iload2 61 dX12_put_60 rfl ?_
  refine j_iaddN 62 dX12_put_61 rfl ?_
  refine j_aload0 63 dX12_put_62 rfl ?_
  refine j_getR 66 dX12_put_63 rfl fl_X12_34 rfl rfl ?_
  refine j_iload1 67 dX12_put_66 rfl ?_
  refine j_iald 68 2 rfl (by decide) dX12_put_67 rfl rfl ?_
  refine j_bipush 70 (v := 8) dX12_put_68 rfl rfl ?_
  refine j_cmp_ne 78 73 dX12_put_70 rfl rfl (fun h70 => ?_) (fun h70 => ?_)
  · refine j_aload0 79 dX12_put_78 rfl ?_
    refine j_getR 82 dX12_put_79 rfl fl_X12_34 rfl rfl ?_
    refine j_iload1 83 dX12_put_82 rfl ?_
    refine j_iald 84 2 rfl (by decide) dX12_put_83 rfl rfl ?_
    refine j_bipush 86 (v := 16) dX12_put_84 rfl rfl ?_
    refine j_cmp_ne 94 89 dX12_put_86 rfl rfl (fun h86 => ?_) (fun h86 => ?_)
    · refine j_iload3 95 dX12_put_94 rfl ?_
      refine j_iast 96 (40 * 2 + i) rfl (show 40 * 2 + i < 160 by omega) dX12_put_95 rfl rfl ?_
      refine j_iconst 97 (v := 1) dX12_put_96 rfl rfl ?_
      refine j_iret dX12_put_97 rfl ?_
      first | exact ⟨rfl, by unfold lowB; rw [if_pos h70]⟩ | exact ⟨rfl, by unfold lowB; rw [if_neg h70, if_pos h86]⟩ | exact ⟨rfl, by unfold lowB; rw [if_neg h70, if_neg h86]⟩
    · refine j_iload3 90 dX12_put_89 rfl ?_
      refine j_i2s 91 dX12_put_90 rfl ?_
      refine j_goto 95 dX12_put_91 rfl ?_
      refine j_iast 96 (40 * 2 + i) rfl (show 40 * 2 + i < 160 by omega) dX12_put_95 rfl rfl ?_
      refine j_iconst 97 (v := 1) dX12_put_96 rfl rfl ?_
      refine j_iret dX12_put_97 rfl ?_
      first | exact ⟨rfl, by unfold lowB; rw [if_pos h70]⟩ | exact ⟨rfl, by unfold lowB; rw [if_neg h70, if_pos h86]⟩ | exact ⟨rfl, by unfold lowB; rw [if_neg h70, if_neg h86]⟩
  · refine j_iload3 74 dX12_put_73 rfl ?_
    refine j_i2b 75 dX12_put_74 rfl ?_
    refine j_goto 95 dX12_put_75 rfl ?_
    refine j_iast 96 (40 * 2 + i) rfl (show 40 * 2 + i < 160 by omega) dX12_put_95 rfl rfl ?_
    refine j_iconst 97 (v := 1) dX12_put_96 rfl rfl ?_
    refine j_iret dX12_put_97 rfl ?_
    first | exact ⟨rfl, by unfold lowB; rw [if_pos h70]⟩ | exact ⟨rfl, by unfold lowB; rw [if_neg h70, if_pos h86]⟩ | exact ⟨rfl, by unfold lowB; rw [if_neg h70, if_neg h86]⟩
set_option maxRecDepth 100000 in
theorem o_put_3 (m : Mem) (i : Nat) (v : Int32) (hi : i < 40) (hb : ¬ m 65 3 = 0) (c : (0 : Int32) ≤ 1 ∧ 0 ≤ nI i ∧ 1 ≤ m 66 3 ∧ nI i ≤ m 66 3 - 1) : JM l g 2 mX11_put [rf g 0, .int (nI 3), .int (nI i), .int v] m (RF (some (.int 1)) (up2 m 64 i (lowB (m 65 3) v))) := by
  refine JM_of (ls := [some (rf g 0), some (.int (nI 3)), some (.int (nI i)), some (.int v)]) pn_X11 rfl rfl ?_
  refine j_iload1 1 dX11_put_0 rfl ?_
  refine j_st1f 4 dX11_put_1 rfl rfl cl_X11_230 rfl (c_isSheet m _) ?_
  refine j_if_ne_bz 14 7 dX11_put_4 rfl rfl (fun h4 => ?_) (fun h4 => absurd (by decide) h4)
  refine j_aload0 15 dX11_put_14 rfl ?_
  refine j_iload1 16 dX11_put_15 rfl ?_
  refine j_vi1f 19 dX11_put_16 rfl rfl cl_X11_233 rfl rfl (c_isMissing m 3 (by decide)) ?_
  refine j_if_eq_bz 29 22 dX11_put_19 rfl rfl (fun h19 => ?_) (fun h19 => absurd h19 hb)
  refine j_aload0 30 dX11_put_29 rfl ?_
  refine j_iload1 31 dX11_put_30 rfl ?_
  refine j_iload2 32 dX11_put_31 rfl ?_
  refine j_iconst 33 (v := 1) dX11_put_32 rfl rfl ?_
  refine j_vi3f 36 dX11_put_33 rfl rfl cl_X11_285 rfl rfl (c_stand m 3 (by decide) (nI i) 1) ?_
  refine j_if_ne_bz 46 39 dX11_put_36 rfl rfl (fun h36 => ?_) (fun h36 => absurd c h36)
  refine j_aload0 47 dX11_put_46 rfl ?_
  refine j_getR 50 dX11_put_47 rfl fl_X11_64 rfl rfl ?_
  refine j_iload1 51 dX11_put_50 rfl ?_
  refine j_aald 52 3 rfl (by decide) dX11_put_51 rfl (by decide) ?_
  refine j_ref (b := 64) (by decide) ?_
  refine j_iload2 53 dX11_put_52 rfl ?_
  refine j_aload0 54 dX11_put_53 rfl ?_
  refine j_getR 57 dX11_put_54 rfl fl_X11_67 rfl rfl ?_
  refine j_iload1 58 dX11_put_57 rfl ?_
  refine j_iald 59 3 rfl (by decide) dX11_put_58 rfl rfl ?_
  refine j_iload3 60 dX11_put_59 rfl ?_
  refine j_st2f 63 dX11_put_60 rfl rfl cl_X11_288 rfl (c_lowest m _ v) ?_
  refine j_iast 64 i rfl hi dX11_put_63 rfl rfl ?_
  refine j_iconst 65 (v := 1) dX11_put_64 rfl rfl ?_
  refine j_iret dX11_put_65 rfl ?_
  exact ⟨rfl, rfl⟩
set_option maxRecDepth 100000 in
theorem p_put_3 (m : Mem) (i : Nat) (v : Int32) (hi : i < 40) (hb : ¬ m 77 3 = 0) (c : 0 ≤ nI i ∧ nI i ≤ m 78 3 - 1) : JM l g 2 mX12_put [rf g 68, .int (nI 3), .int (nI i), .int v] m (RF (some (.int 1)) (up2 m 79 (40 * 3 + i) (lowB (m 77 3) v))) := by
  refine JM_of (ls := [some (rf g 68), some (.int (nI 3)), some (.int (nI i)), some (.int v)]) pn_X12 rfl rfl ?_
  refine j_iload1 1 dX12_put_0 rfl ?_
  refine j_st1f 4 dX12_put_1 rfl rfl cl_X12_243 rfl (c_misSheet m _) ?_
  refine j_if_ne_bz 13 7 dX12_put_4 rfl rfl (fun h4 => ?_) (fun h4 => absurd (by decide) h4)
  refine j_aload0 14 dX12_put_13 rfl ?_
  refine j_getR 17 dX12_put_14 rfl fl_X12_34 rfl rfl ?_
  refine j_iload1 18 dX12_put_17 rfl ?_
  refine j_iald 19 3 rfl (by decide) dX12_put_18 rfl rfl ?_
  refine j_if_ne 28 22 dX12_put_19 rfl rfl (fun h19 => ?_) (fun h19 => absurd h19 hb)
  refine j_iload2 29 dX12_put_28 rfl ?_
  refine j_i2l 30 dX12_put_29 rfl ?_
  refine j_lconst 31 (v := 0) dX12_put_30 rfl rfl ?_
  refine j_aload0 32 dX12_put_31 rfl ?_
  refine j_getR 35 dX12_put_32 rfl fl_X12_37 rfl rfl ?_
  refine j_iload1 36 dX12_put_35 rfl ?_
  refine j_iald 37 3 rfl (by decide) dX12_put_36 rfl rfl ?_
  refine j_iconst 38 (v := 1) dX12_put_37 rfl rfl ?_
  refine j_isub 39 dX12_put_38 rfl ?_
  refine j_i2l 40 dX12_put_39 rfl ?_
  refine j_st3f 43 dX12_put_40 rfl rfl cl_X12_47 rfl (c_in m _ 0 _) ?_
  refine j_if_ne_bz 52 46 dX12_put_43 rfl rfl (fun h43 => ?_) (fun h43 => absurd c h43)
  refine j_aload0 53 dX12_put_52 rfl ?_
  refine j_getR 56 dX12_put_53 rfl fl_X12_40 rfl rfl ?_
  refine j_bipush 58 (v := nI 40) dX12_put_56 rfl rfl ?_
  refine j_iload1 59 dX12_put_58 rfl ?_
  refine j_imulN 60 dX12_put_59 rfl ?_
  refine j_iload2 61 dX12_put_60 rfl ?_
  refine j_iaddN 62 dX12_put_61 rfl ?_
  refine j_aload0 63 dX12_put_62 rfl ?_
  refine j_getR 66 dX12_put_63 rfl fl_X12_34 rfl rfl ?_
  refine j_iload1 67 dX12_put_66 rfl ?_
  refine j_iald 68 3 rfl (by decide) dX12_put_67 rfl rfl ?_
  refine j_bipush 70 (v := 8) dX12_put_68 rfl rfl ?_
  refine j_cmp_ne 78 73 dX12_put_70 rfl rfl (fun h70 => ?_) (fun h70 => ?_)
  · refine j_aload0 79 dX12_put_78 rfl ?_
    refine j_getR 82 dX12_put_79 rfl fl_X12_34 rfl rfl ?_
    refine j_iload1 83 dX12_put_82 rfl ?_
    refine j_iald 84 3 rfl (by decide) dX12_put_83 rfl rfl ?_
    refine j_bipush 86 (v := 16) dX12_put_84 rfl rfl ?_
    refine j_cmp_ne 94 89 dX12_put_86 rfl rfl (fun h86 => ?_) (fun h86 => ?_)
    · refine j_iload3 95 dX12_put_94 rfl ?_
      refine j_iast 96 (40 * 3 + i) rfl (show 40 * 3 + i < 160 by omega) dX12_put_95 rfl rfl ?_
      refine j_iconst 97 (v := 1) dX12_put_96 rfl rfl ?_
      refine j_iret dX12_put_97 rfl ?_
      first | exact ⟨rfl, by unfold lowB; rw [if_pos h70]⟩ | exact ⟨rfl, by unfold lowB; rw [if_neg h70, if_pos h86]⟩ | exact ⟨rfl, by unfold lowB; rw [if_neg h70, if_neg h86]⟩
    · refine j_iload3 90 dX12_put_89 rfl ?_
      refine j_i2s 91 dX12_put_90 rfl ?_
      refine j_goto 95 dX12_put_91 rfl ?_
      refine j_iast 96 (40 * 3 + i) rfl (show 40 * 3 + i < 160 by omega) dX12_put_95 rfl rfl ?_
      refine j_iconst 97 (v := 1) dX12_put_96 rfl rfl ?_
      refine j_iret dX12_put_97 rfl ?_
      first | exact ⟨rfl, by unfold lowB; rw [if_pos h70]⟩ | exact ⟨rfl, by unfold lowB; rw [if_neg h70, if_pos h86]⟩ | exact ⟨rfl, by unfold lowB; rw [if_neg h70, if_neg h86]⟩
  · refine j_iload3 74 dX12_put_73 rfl ?_
    refine j_i2b 75 dX12_put_74 rfl ?_
    refine j_goto 95 dX12_put_75 rfl ?_
    refine j_iast 96 (40 * 3 + i) rfl (show 40 * 3 + i < 160 by omega) dX12_put_95 rfl rfl ?_
    refine j_iconst 97 (v := 1) dX12_put_96 rfl rfl ?_
    refine j_iret dX12_put_97 rfl ?_
    first | exact ⟨rfl, by unfold lowB; rw [if_pos h70]⟩ | exact ⟨rfl, by unfold lowB; rw [if_neg h70, if_pos h86]⟩ | exact ⟨rfl, by unfold lowB; rw [if_neg h70, if_neg h86]⟩
theorem op_put {m : Mem} (I : INV m) (a i v : Int32) : OPr l g mX11_put mX12_put [.int a, .int i, .int v] m := by
  obtain ⟨-, -, -, -, hSH⟩ := id I
  by_cases c : 0 ≤ a ∧ a ≤ 3
  · obtain ⟨s, hs, rfl⟩ := (rngN 3 (by decide)).mp c
    have hs : s < 4 := by omega
    obtain ⟨a1, a2, a3, ⟨K, hK, eK⟩, a5⟩ := hSH s hs
    by_cases hb : m 77 s = 0
    · exact OPr_err I (by decide) (by decide) (by decide) (e_put1 m s i v hs (a1.trans hb)) (f_put1 _ s i v hs (by rw [errC_o (by decide)]; exact hb))
    · by_cases ci : 0 ≤ i ∧ i ≤ m 78 s - 1
      · obtain ⟨j, j1, rfl⟩ := nI_of (Int32.not_lt.mpr ci.1)
        have hj : j < 40 := by
          have := (lt_pred eK (by omega)).mpr ci
          rw [eK] at this
          have := (nI_ltI j1 (by omega)).mp this.2
          omega
        have c1 : (0 : Int32) ≤ 1 ∧ 0 ≤ nI j ∧ 1 ≤ m 66 s ∧ nI j ≤ m 66 s - 1 := by rw [a2, eK]; rw [eK] at ci; exact (st1 hK).mpr ci
        have key : ∀ m2, m2 = up2 (up2 m (61 + s) j (lowB (m 65 s) v)) 79 (40 * s + j) (lowB (m 65 s) v) → INV m2 := fun m2 e => by
          subst e
          refine INV_sh I (((Sm.rf).up ?_).up (by decide)) (SH_put hSH hs hj)
          rcases (show s = 0 ∨ s = 1 ∨ s = 2 ∨ s = 3 by omega) with rfl | rfl | rfl | rfl <;> decide
        rcases (show s = 0 ∨ s = 1 ∨ s = 2 ∨ s = 3 by omega) with rfl | rfl | rfl | rfl
        · refine ⟨2, 2, 1, _, by decide, by decide, o_put_0 m j v hj (by rw [a1]; exact hb) c1, fun m' e => ?_⟩
          subst e
          have e77 : up2 m 61 j (lowB (m 65 0) v) 77 = m 77 := up2_r (by decide)
          have e78 : up2 m 61 j (lowB (m 65 0) v) 78 = m 78 := up2_r (by decide)
          refine (p_put_0 _ j v hj (by rw [e77]; exact hb) (by rw [e78]; exact ci)).mono (RS_w (fun m2 q => key m2 ?_))
          rw [q, e77, ← a1]
        · refine ⟨2, 2, 1, _, by decide, by decide, o_put_1 m j v hj (by rw [a1]; exact hb) c1, fun m' e => ?_⟩
          subst e
          have e77 : up2 m 62 j (lowB (m 65 1) v) 77 = m 77 := up2_r (by decide)
          have e78 : up2 m 62 j (lowB (m 65 1) v) 78 = m 78 := up2_r (by decide)
          refine (p_put_1 _ j v hj (by rw [e77]; exact hb) (by rw [e78]; exact ci)).mono (RS_w (fun m2 q => key m2 ?_))
          rw [q, e77, ← a1]
        · refine ⟨2, 2, 1, _, by decide, by decide, o_put_2 m j v hj (by rw [a1]; exact hb) c1, fun m' e => ?_⟩
          subst e
          have e77 : up2 m 63 j (lowB (m 65 2) v) 77 = m 77 := up2_r (by decide)
          have e78 : up2 m 63 j (lowB (m 65 2) v) 78 = m 78 := up2_r (by decide)
          refine (p_put_2 _ j v hj (by rw [e77]; exact hb) (by rw [e78]; exact ci)).mono (RS_w (fun m2 q => key m2 ?_))
          rw [q, e77, ← a1]
        · refine ⟨2, 2, 1, _, by decide, by decide, o_put_3 m j v hj (by rw [a1]; exact hb) c1, fun m' e => ?_⟩
          subst e
          have e77 : up2 m 64 j (lowB (m 65 3) v) 77 = m 77 := up2_r (by decide)
          have e78 : up2 m 64 j (lowB (m 65 3) v) 78 = m 78 := up2_r (by decide)
          refine (p_put_3 _ j v hj (by rw [e77]; exact hb) (by rw [e78]; exact ci)).mono (RS_w (fun m2 q => key m2 ?_))
          rw [q, e77, ← a1]
      · exact OPr_err I (by decide) (by decide) (by decide) (e_put2 m s i v hs (by rw [a1]; exact hb) (fun q => ci (by rw [a2, eK] at q; rw [eK]; exact (st1 hK).mp q))) (f_put2 _ s i v hs (by rw [errC_o (by decide)]; exact hb) (by rw [errC_o (by decide)]; exact ci))
  · exact OPr_err I (by decide) (by decide) (by decide) (e_put0 m a i v c) (f_put0 _ a i v c)
end O21
