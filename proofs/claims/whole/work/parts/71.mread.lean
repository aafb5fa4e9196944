/-! the reference reads a TEXT -/
def RR (o : Nat) (m0 m : Mem) (s : PT) : Prop := m 68 6 = nI s.1 ∧ m 68 8 = (if s.2.2 = true then -1 else nI s.1) ∧ m 68 9 = nI o ∧ (s.2.2 = true → m 68 13 = nI s.2.1.length ∧ ∀ j, j < s.2.1.length → m 74 j = cdL s.2.1 j) ∧ (∀ b, b ≠ 68 → b ≠ 74 → m b = m0 b) ∧ ∀ k, k ≠ 6 → k ≠ 8 → k ≠ 9 → k ≠ 13 → m 68 k = m0 68 k
def RX (m0 : Mem) (t : Nat → Int32) (n u : Nat) : Prop := m0 68 5 = nI 210 ∧ m0 68 7 = nI n ∧ m0 68 10 = nI u ∧ (∀ j, j < 50 → m0 69 (210 + j) = t j) ∧ n ≤ 50
def hrF (t : Nat → Int32) (n : Nat) (s : PT) : Int32 := if s.2.2 = true then sgF t n s.1 else -1
theorem RR_av {o : Nat} {m0 m : Mem} {s : PT} (h : RR o m0 m s) (ok : s.2.2 = true) : RR o m0 (up2 m 68 6 (nI (s.1 + 1))) (avF s) := by
  obtain ⟨e6, e8, e9, hc, ho, hs⟩ := h
  exact ⟨up2_s, by rw [up2_k (by decide), e8, if_pos ok]; exact (if_pos ok).symm, by rw [up2_k (by decide)]; exact e9, fun z => ⟨by rw [up2_k (by decide)]; exact (hc ok).1, fun j hj => by rw [up2_a (by decide)]; exact (hc ok).2 j hj⟩, fun b b1 b2 => by rw [up2_r b1]; exact ho b b1 b2, fun k k6 k8 k9 k13 => by rw [up2_k k6]; exact hs k k6 k8 k9 k13⟩
theorem RR_fl {o : Nat} {m0 m : Mem} {s : PT} (h : RR o m0 m s) : RR o m0 (up2 m 68 8 (nI s.1)) (flF s) := by
  obtain ⟨e6, e8, e9, hc, ho, hs⟩ := h
  exact ⟨by rw [up2_k (by decide)]; exact e6, up2_s, by rw [up2_k (by decide)]; exact e9, fun z => (by cases z), fun b b1 b2 => by rw [up2_r b1]; exact ho b b1 b2, fun k k6 k8 k9 k13 => by rw [up2_k k8]; exact hs k k6 k8 k9 k13⟩
theorem RR_op {o o' : Nat} {m0 m : Mem} {s : PT} (h : RR o m0 m s) : RR o' m0 (up2 m 68 9 (nI o')) s := by
  obtain ⟨e6, e8, e9, hc, ho, hs⟩ := h
  exact ⟨by rw [up2_k (by decide)]; exact e6, by rw [up2_k (by decide)]; exact e8, up2_s, fun z => ⟨by rw [up2_k (by decide)]; exact (hc z).1, fun j hj => by rw [up2_a (by decide)]; exact (hc z).2 j hj⟩, fun b b1 b2 => by rw [up2_r b1]; exact ho b b1 b2, fun k k6 k8 k9 k13 => by rw [up2_k k9]; exact hs k k6 k8 k9 k13⟩
theorem RR_wr {o : Nat} {m0 m : Mem} {s : PT} {x : Int32} (h : RR o m0 m s) (ok : s.2.2 = true) : RR o m0 (up2 (up2 m 74 s.2.1.length x) 68 13 (nI (s.2.1.length + 1))) (wrF x s) := by
  obtain ⟨e6, e8, e9, hc, ho, hs⟩ := h
  obtain ⟨c1, c2⟩ := hc ok
  refine ⟨by rw [up2_k (by decide), up2_a (by decide), wr_1]; exact e6, by rw [up2_k (by decide), up2_a (by decide), wr_ok, wr_1]; exact e8, by rw [up2_k (by decide), up2_a (by decide)]; exact e9, fun z => ?_, fun b b1 b2 => by rw [up2_r b1, up2_r b2]; exact ho b b1 b2, fun k k6 k8 k9 k13 => by rw [up2_k k13, up2_a (by decide)]; exact hs k k6 k8 k9 k13⟩
  rw [wr_t ok]
  refine ⟨by rw [up2_s]; simp, fun j hj => ?_⟩
  rw [up2_a (by decide)]
  by_cases q : j = s.2.1.length
  · subst q
    rw [up2_s, cd_last]
  · have hj2 : j < s.2.1.length := by simp at hj; omega
    rw [up2_k q, cd_app hj2]
    exact c2 j hj2
theorem lv4 {c : Int32} : lvO c = 4 ↔ (c = 42 ∨ c = 47 ∨ c = 37) := by
  constructor
  · intro h
    unfold lvO at h
    repeat' split at h
    all_goals first | (left; assumption) | (right; left; assumption) | (right; right; assumption) | exact absurd h (by decide)
  · rintro (rfl | rfl | rfl) <;> decide
theorem lv3 {c : Int32} : lvO c = 3 ↔ (c = 43 ∨ c = 45) := by
  constructor
  · intro h
    unfold lvO at h
    repeat' split at h
    all_goals first | (left; assumption) | (right; assumption) | exact absurd h (by decide)
  · rintro (rfl | rfl) <;> decide
theorem lv2 {c : Int32} : lvO c = 2 ↔ (c = 60 ∨ c = 61 ∨ c = 62) := by
  constructor
  · intro h
    unfold lvO at h
    repeat' split at h
    all_goals first | (left; assumption) | (right; left; assumption) | (right; right; assumption) | exact absurd h (by decide)
  · rintro (rfl | rfl | rfl) <;> decide
theorem lv1 {c : Int32} : lvO c = 1 ↔ c = 38 := by
  constructor
  · intro h
    unfold lvO at h
    repeat' split at h
    all_goals first | assumption | exact absurd h (by decide)
  · rintro rfl; decide
theorem lv0 {c : Int32} : lvO c = 0 ↔ c = 124 := by
  constructor
  · intro h
    unfold lvO at h
    repeat' split at h
    all_goals first | assumption | exact absurd h (by decide)
  · rintro rfl; decide
theorem hr_ok {t : Nat → Int32} {n : Nat} {s : PT} {c : Int32} (h : hrF t n s = c) (hc : c ≠ -1) : s.2.2 = true ∧ sgF t n s.1 = c := by
  unfold hrF at h
  by_cases q : s.2.2 = true
  · rw [if_pos q] at h; exact ⟨q, h⟩
  · rw [if_neg q] at h; exact absurd h.symm hc
theorem dg_nm {u : Nat} (hu : u ≤ 1) {c : Int32} (h : dgP c) : ¬ 0 ≤ nmF u c := by
  obtain ⟨b, b1, b2, rfl⟩ := dg_c h
  have key : ∀ u, u < 2 → ∀ b, b < 10 → ¬ 0 ≤ nmF u (nI (48 + b)) := by decide +kernel
  have := key u (by omega) (b - 48) (by omega)
  rw [show 48 + (b - 48) = b by omega] at this
  exact this
abbrev KM (l : Launch) (g : Gv) (y : MD) (D n o : Nat) (m0 : Mem) (F : PT → PT) : Prop := ∀ (m : Mem) (s : PT), RR o m0 m s → s.2.2 = true → s.1 ≤ n → s.2.1.length ≤ s.1 → JM l g D y [rf g 68] m (RS none (fun m' => RR o m0 m' (F s)))
section O36
variable {l : Launch} {g : Gv}
theorem r_here (m m0 : Mem) (o : Nat) (s : PT) (t : Nat → Int32) (n u : Nat) (hx : RX m0 t n u) (h : RR o m0 m s) (hp : s.1 ≤ n) : JM l g 0 mX12_here [rf g 68] m (RF (some (.int (hrF t n s))) m) := by
  obtain ⟨e6, e8, e9, hc, ho, hs⟩ := id h
  obtain ⟨x5, x7, x10, xt, hn⟩ := hx
  have e5 : m 68 5 = nI 210 := (hs 5 (by decide) (by decide) (by decide) (by decide)).trans x5
  have e7 : m 68 7 = nI n := (hs 7 (by decide) (by decide) (by decide) (by decide)).trans x7
  refine JM_of (ls := [some (rf g 68)]) pn_X12 rfl rfl ?_
  by_cases ok : s.2.2 = true
  · rw [if_pos ok] at e8
    have eh : hrF t n s = sgF t n s.1 := if_pos ok
    rw [eh]
    refine j_aload0 1 dX12_here_0 rfl ?_
    refine j_getI 4 dX12_here_1 rfl fl_X12_53 rfl rfl ?_
    refine j_top e6 ?_
    refine j_aload0 5 dX12_here_4 rfl ?_
    refine j_getI 8 dX12_here_5 rfl fl_X12_57 rfl rfl ?_
    refine j_top e7 ?_
    refine j_cmp_ge 35 11 dX12_here_8 rfl rfl (fun h8 => ?_) (fun h8 => ?_)
    · refine j_iconst 36 (v := -1) dX12_here_35 rfl rfl ?_
      refine j_iret dX12_here_36 rfl ?_
      first | exact rf_e (by rw [ho 69 (by decide) (by decide), xt s.1 (by omega)]; unfold sgF; rw [if_pos hlt]) | exact rf_e (by unfold sgF; rw [if_neg (fun q => absurd h8 (nI_ge q (by omega)))])
    · have hlt : s.1 < n := Nat.not_le.mp (fun q => h8 (nI_le q (by omega)))
      refine j_aload0 12 dX12_here_11 rfl ?_
      refine j_getI 15 dX12_here_12 rfl fl_X12_60 rfl rfl ?_
      refine j_top e8 ?_
      refine j_if_ge 35 18 dX12_here_15 rfl rfl (fun h15 => absurd h15 (by decide)) (fun h15 => ?_)
      refine j_aload0 19 dX12_here_18 rfl ?_
      refine j_getR 22 dX12_here_19 rfl fl_X12_7 rfl rfl ?_
      refine j_aload0 23 dX12_here_22 rfl ?_
      refine j_getI 26 dX12_here_23 rfl fl_X12_63 rfl rfl ?_
      refine j_top e5 ?_
      refine j_aload0 27 dX12_here_26 rfl ?_
      refine j_getI 30 dX12_here_27 rfl fl_X12_53 rfl rfl ?_
      refine j_top e6 ?_
      refine j_iaddN 31 dX12_here_30 rfl ?_
      refine j_iald 32 (210 + s.1) rfl (show 210 + s.1 < 260 by omega) dX12_here_31 rfl rfl ?_
      refine j_goto 36 dX12_here_32 rfl ?_
      refine j_iret dX12_here_36 rfl ?_
      first | exact rf_e (by rw [ho 69 (by decide) (by decide), xt s.1 (by omega)]; unfold sgF; rw [if_pos hlt]) | exact rf_e (by unfold sgF; rw [if_neg (fun q => absurd h8 (nI_ge q (by omega)))])
  · rw [if_neg ok] at e8
    have eh : hrF t n s = -1 := if_neg ok
    rw [eh]
    refine j_aload0 1 dX12_here_0 rfl ?_
    refine j_getI 4 dX12_here_1 rfl fl_X12_53 rfl rfl ?_
    refine j_top e6 ?_
    refine j_aload0 5 dX12_here_4 rfl ?_
    refine j_getI 8 dX12_here_5 rfl fl_X12_57 rfl rfl ?_
    refine j_top e7 ?_
    refine j_cmp_ge 35 11 dX12_here_8 rfl rfl (fun h8 => ?_) (fun h8 => ?_)
    · refine j_iconst 36 (v := -1) dX12_here_35 rfl rfl ?_
      refine j_iret dX12_here_36 rfl ?_
      exact ⟨rfl, rfl⟩
    · refine j_aload0 12 dX12_here_11 rfl ?_
      refine j_getI 15 dX12_here_12 rfl fl_X12_60 rfl rfl ?_
      refine j_top e8 ?_
      refine j_if_ge 35 18 dX12_here_15 rfl rfl (fun h15 => ?_) (fun h15 => absurd (nI_pos' (by omega)) h15)
      refine j_iconst 36 (v := -1) dX12_here_35 rfl rfl ?_
      refine j_iret dX12_here_36 rfl ?_
      exact ⟨rfl, rfl⟩
theorem r_wrong (m m0 : Mem) (o : Nat) (s : PT) (h : RR o m0 m s) (hp : s.1 < 2 ^ 31) : JM l g 0 mX12_wrong [rf g 68] m (RS none (fun m' => RR o m0 m' (flF s))) := by
  obtain ⟨e6, e8, e9, hc, ho, hs⟩ := id h
  refine JM_of (ls := [some (rf g 68)]) pn_X12 rfl rfl ?_
  by_cases ok : s.2.2 = true
  · rw [if_pos ok] at e8
    refine j_aload0 1 dX12_wrong_0 rfl ?_
    refine j_aload0 2 dX12_wrong_1 rfl ?_
    refine j_getI 5 dX12_wrong_2 rfl fl_X12_60 rfl rfl ?_
    refine j_top e8 ?_
    refine j_if_ge 15 8 dX12_wrong_5 rfl rfl (fun h5 => absurd h5 (by decide)) (fun h5 => ?_)
    refine j_aload0 9 dX12_wrong_8 rfl ?_
    refine j_getI 12 dX12_wrong_9 rfl fl_X12_53 rfl rfl ?_
    refine j_top e6 ?_
    refine j_goto 19 dX12_wrong_12 rfl ?_
    refine j_putI 22 dX12_wrong_19 rfl fp_X12_60 rfl rfl ?_
    refine j_vret dX12_wrong_22 rfl ?_
    exact ⟨rfl, RR_fl h⟩
  · rw [if_neg ok] at e8
    refine j_aload0 1 dX12_wrong_0 rfl ?_
    refine j_aload0 2 dX12_wrong_1 rfl ?_
    refine j_getI 5 dX12_wrong_2 rfl fl_X12_60 rfl rfl ?_
    refine j_top e8 ?_
    refine j_if_ge 15 8 dX12_wrong_5 rfl rfl (fun h5 => ?_) (fun h5 => absurd (nI_pos' hp) h5)
    refine j_aload0 16 dX12_wrong_15 rfl ?_
    refine j_getI 19 dX12_wrong_16 rfl fl_X12_60 rfl rfl ?_
    refine j_top e8 ?_
    refine j_putI 22 dX12_wrong_19 rfl fp_X12_60 rfl rfl ?_
    refine j_vret dX12_wrong_22 rfl ?_
    exact ⟨rfl, RR_fl h⟩
theorem r_takes (m m0 : Mem) (o : Nat) (s : PT) (t : Nat → Int32) (n u : Nat) (c : Int32) (hc : c ≠ -1) (hx : RX m0 t n u) (h : RR o m0 m s) (hp : s.1 ≤ n) : JM l g 1 mX12_takes [rf g 68, .int c] m (RS (some (.int (bz (hrF t n s = c)))) (fun m' => RR o m0 m' (if hrF t n s = c then avF s else s))) := by
  refine JM_of (ls := [some (rf g 68), some (.int c)]) pn_X12 rfl rfl ?_
  refine j_aload0 1 dX12_takes_0 rfl ?_
  refine j_vi0f 4 dX12_takes_1 rfl rfl cl_X12_66 rfl rfl (r_here m m0 o s t n u hx h hp) ?_
  refine j_iload1 5 dX12_takes_4 rfl ?_
  refine j_cmp_eq 10 8 dX12_takes_5 rfl rfl (fun h5 => ?_) (fun h5 => ?_)
  · refine j_aload0 11 dX12_takes_10 rfl ?_
    refine j_dup 12 dX12_takes_11 rfl rfl ?_
    refine j_getI 15 dX12_takes_12 rfl fl_X12_53 rfl rfl ?_
    refine j_top h.1 ?_
    refine j_iconst 16 (v := 1) dX12_takes_15 rfl rfl ?_
    refine j_iadd 17 dX12_takes_16 rfl ?_
    refine j_top (nI_1 s.1) ?_
    refine j_putI 20 dX12_takes_17 rfl fp_X12_53 rfl rfl ?_
    refine j_iconst 21 (v := 1) dX12_takes_20 rfl rfl ?_
    refine j_zret (by first | exact bz_01 | exact Or.inl rfl | exact Or.inr rfl | assumption) dX12_takes_21 rfl ?_
    first | exact ⟨by rw [bz_t h5], by rw [if_pos h5]; exact RR_av h (hr_ok h5 hc).1⟩ | exact ⟨by rw [bz_f h5], by rw [if_neg h5]; exact h⟩
  · refine j_iconst 9 (v := 0) dX12_takes_8 rfl rfl ?_
    refine j_zret (by first | exact bz_01 | exact Or.inl rfl | exact Or.inr rfl | assumption) dX12_takes_9 rfl ?_
    first | exact ⟨by rw [bz_t h5], by rw [if_pos h5]; exact RR_av h (hr_ok h5 hc).1⟩ | exact ⟨by rw [bz_f h5], by rw [if_neg h5]; exact h⟩
theorem r_lay (m m0 : Mem) (o : Nat) (s : PT) (x : Int32) (h : RR o m0 m s) (hb : s.2.2 = true → s.2.1.length < 60) (hp : s.1 < 2 ^ 31) : JM l g 0 mX12_lay [rf g 68, .int x] m (RS none (fun m' => RR o m0 m' (wrF x s))) := by
  obtain ⟨e6, e8, e9, hc, ho, hs⟩ := id h
  refine JM_of (ls := [some (rf g 68), some (.int x)]) pn_X12 rfl rfl ?_
  by_cases ok : s.2.2 = true
  · rw [if_pos ok] at e8
    have h13 := (hc ok).1
    refine j_aload0 1 dX12_lay_0 rfl ?_
    refine j_getI 4 dX12_lay_1 rfl fl_X12_60 rfl rfl ?_
    refine j_top e8 ?_
    refine j_if_ge 27 7 dX12_lay_4 rfl rfl (fun h4 => absurd h4 (by decide)) (fun h4 => ?_)
    refine j_aload0 8 dX12_lay_7 rfl ?_
    refine j_getR 11 dX12_lay_8 rfl fl_X12_25 rfl rfl ?_
    refine j_aload0 12 dX12_lay_11 rfl ?_
    refine j_getI 15 dX12_lay_12 rfl fl_X12_74 rfl rfl ?_
    refine j_top h13 ?_
    refine j_iload1 16 dX12_lay_15 rfl ?_
    refine j_iast 17 s.2.1.length rfl (hb ok) dX12_lay_16 rfl rfl ?_
    refine j_aload0 18 dX12_lay_17 rfl ?_
    refine j_dup 19 dX12_lay_18 rfl rfl ?_
    refine j_getI 22 dX12_lay_19 rfl fl_X12_74 rfl rfl ?_
    refine j_top ((up2_a (by decide)).trans h13) ?_
    refine j_iconst 23 (v := 1) dX12_lay_22 rfl rfl ?_
    refine j_iadd 24 dX12_lay_23 rfl ?_
    refine j_top (nI_1 s.2.1.length) ?_
    refine j_putI 27 dX12_lay_24 rfl fp_X12_74 rfl rfl ?_
    refine j_vret dX12_lay_27 rfl ?_
    exact ⟨rfl, RR_wr h ok⟩
  · rw [if_neg ok] at e8
    have e : wrF x s = s := by unfold wrF; rw [if_neg ok]
    refine j_aload0 1 dX12_lay_0 rfl ?_
    refine j_getI 4 dX12_lay_1 rfl fl_X12_60 rfl rfl ?_
    refine j_top e8 ?_
    refine j_if_ge 27 7 dX12_lay_4 rfl rfl (fun h4 => ?_) (fun h4 => absurd (nI_pos' hp) h4)
    refine j_vret dX12_lay_27 rfl ?_
    exact ⟨rfl, by rw [e]; exact h⟩
set_option maxRecDepth 100000 in
theorem r_name_0 (m : Mem) (c : Int32) (hl : m 68 10 = nI 0) : JM l g 0 mX12_nameOf [rf g 68, .int c] m (RF (some (.int (nmF 0 c))) m) := by
  refine JM_of (ls := [some (rf g 68), some (.int c)]) pn_X12 rfl rfl ?_
  refine j_iload1 1 dX12_nameOf_0 rfl ?_
  refine j_aload0 2 dX12_nameOf_1 rfl ?_
  refine j_getI 5 dX12_nameOf_2 rfl fl_X12_70 rfl rfl ?_
  refine j_top hl ?_
  refine j_if_eq 13 8 dX12_nameOf_5 rfl rfl (fun h5 => ?_) (fun h5 => absurd rfl h5)
  refine j_bipush 15 (v := 99) dX12_nameOf_13 rfl rfl ?_
  refine j_cmp_ne 22 18 dX12_nameOf_15 rfl rfl (fun h15 => ?_) (fun h15 => ?_)
  · refine j_iload1 23 dX12_nameOf_22 rfl ?_
    refine j_aload0 24 dX12_nameOf_23 rfl ?_
    refine j_getI 27 dX12_nameOf_24 rfl fl_X12_70 rfl rfl ?_
    refine j_top hl ?_
    refine j_if_eq 35 30 dX12_nameOf_27 rfl rfl (fun h27 => ?_) (fun h27 => absurd rfl h27)
    refine j_bipush 37 (v := 100) dX12_nameOf_35 rfl rfl ?_
    refine j_cmp_ne 44 40 dX12_nameOf_37 rfl rfl (fun h37 => ?_) (fun h37 => ?_)
    · refine j_iload1 45 dX12_nameOf_44 rfl ?_
      refine j_aload0 46 dX12_nameOf_45 rfl ?_
      refine j_getI 49 dX12_nameOf_46 rfl fl_X12_70 rfl rfl ?_
      refine j_top hl ?_
      refine j_if_eq 57 52 dX12_nameOf_49 rfl rfl (fun h49 => ?_) (fun h49 => absurd rfl h49)
      refine j_bipush 59 (v := 112) dX12_nameOf_57 rfl rfl ?_
      refine j_cmp_ne 66 62 dX12_nameOf_59 rfl rfl (fun h59 => ?_) (fun h59 => ?_)
      · refine j_iconst 67 (v := -1) dX12_nameOf_66 rfl rfl ?_
        refine j_iret dX12_nameOf_67 rfl ?_
        exact rf_e (by simp [nmF, stB, *])
      · refine j_iconst 63 (v := 2) dX12_nameOf_62 rfl rfl ?_
        refine j_goto 67 dX12_nameOf_63 rfl ?_
        refine j_iret dX12_nameOf_67 rfl ?_
        exact rf_e (by simp [nmF, stB, *])
    · refine j_iconst 41 (v := 1) dX12_nameOf_40 rfl rfl ?_
      refine j_goto 67 dX12_nameOf_41 rfl ?_
      refine j_iret dX12_nameOf_67 rfl ?_
      exact rf_e (by simp [nmF, stB, *])
  · refine j_iconst 19 (v := 0) dX12_nameOf_18 rfl rfl ?_
    refine j_goto 67 dX12_nameOf_19 rfl ?_
    refine j_iret dX12_nameOf_67 rfl ?_
    exact rf_e (by simp [nmF, stB, *])
set_option maxRecDepth 100000 in
theorem r_name_1 (m : Mem) (c : Int32) (hl : m 68 10 = nI 1) : JM l g 0 mX12_nameOf [rf g 68, .int c] m (RF (some (.int (nmF 1 c))) m) := by
  refine JM_of (ls := [some (rf g 68), some (.int c)]) pn_X12 rfl rfl ?_
  refine j_iload1 1 dX12_nameOf_0 rfl ?_
  refine j_aload0 2 dX12_nameOf_1 rfl ?_
  refine j_getI 5 dX12_nameOf_2 rfl fl_X12_70 rfl rfl ?_
  refine j_top hl ?_
  refine j_if_eq 13 8 dX12_nameOf_5 rfl rfl (fun h5 => absurd h5 (by decide)) (fun h5 => ?_)
  refine j_bipush 10 (v := 108) dX12_nameOf_8 rfl rfl ?_
  refine j_goto 15 dX12_nameOf_10 rfl ?_
  refine j_cmp_ne 22 18 dX12_nameOf_15 rfl rfl (fun h15 => ?_) (fun h15 => ?_)
  · refine j_iload1 23 dX12_nameOf_22 rfl ?_
    refine j_aload0 24 dX12_nameOf_23 rfl ?_
    refine j_getI 27 dX12_nameOf_24 rfl fl_X12_70 rfl rfl ?_
    refine j_top hl ?_
    refine j_if_eq 35 30 dX12_nameOf_27 rfl rfl (fun h27 => absurd h27 (by decide)) (fun h27 => ?_)
    refine j_bipush 32 (v := 115) dX12_nameOf_30 rfl rfl ?_
    refine j_goto 37 dX12_nameOf_32 rfl ?_
    refine j_cmp_ne 44 40 dX12_nameOf_37 rfl rfl (fun h37 => ?_) (fun h37 => ?_)
    · refine j_iload1 45 dX12_nameOf_44 rfl ?_
      refine j_aload0 46 dX12_nameOf_45 rfl ?_
      refine j_getI 49 dX12_nameOf_46 rfl fl_X12_70 rfl rfl ?_
      refine j_top hl ?_
      refine j_if_eq 57 52 dX12_nameOf_49 rfl rfl (fun h49 => absurd h49 (by decide)) (fun h49 => ?_)
      refine j_bipush 54 (v := 100) dX12_nameOf_52 rfl rfl ?_
      refine j_goto 59 dX12_nameOf_54 rfl ?_
      refine j_cmp_ne 66 62 dX12_nameOf_59 rfl rfl (fun h59 => ?_) (fun h59 => ?_)
      · refine j_iconst 67 (v := -1) dX12_nameOf_66 rfl rfl ?_
        refine j_iret dX12_nameOf_67 rfl ?_
        exact rf_e (by simp [nmF, stB, *])
      · refine j_iconst 63 (v := 2) dX12_nameOf_62 rfl rfl ?_
        refine j_goto 67 dX12_nameOf_63 rfl ?_
        refine j_iret dX12_nameOf_67 rfl ?_
        exact rf_e (by simp [nmF, stB, *])
    · refine j_iconst 41 (v := 1) dX12_nameOf_40 rfl rfl ?_
      refine j_goto 67 dX12_nameOf_41 rfl ?_
      refine j_iret dX12_nameOf_67 rfl ?_
      exact rf_e (by simp [nmF, stB, *])
  · refine j_iconst 19 (v := 0) dX12_nameOf_18 rfl rfl ?_
    refine j_goto 67 dX12_nameOf_19 rfl ?_
    refine j_iret dX12_nameOf_67 rfl ?_
    exact rf_e (by simp [nmF, stB, *])
theorem r_opens5 (m m0 : Mem) (s : PT) (c : Int32) (h : RR 5 m0 m s) (hp : s.1 < 2 ^ 31) : JM l g 1 mX12_opens [rf g 68, .int c] m (RS none (fun m' => RR 5 m0 m' (flF s))) := by
  refine JM_of (ls := [some (rf g 68), some (.int c)]) pn_X12 rfl rfl ?_
  refine j_aload0 1 dX12_opens_0 rfl ?_
  refine j_getI 4 dX12_opens_1 rfl fl_X12_100 rfl rfl ?_
  refine j_top h.2.2.1 ?_
  refine j_iconst 5 (v := 5) dX12_opens_4 rfl rfl ?_
  refine j_cmp_ne 13 8 dX12_opens_5 rfl rfl (fun h5 => absurd h5 (fun q => q (by decide))) (fun h5 => ?_)
  refine j_aload0 9 dX12_opens_8 rfl ?_
  refine j_vi0w 12 dX12_opens_9 rfl rfl cl_X12_103 rfl rfl (r_wrong m m0 5 s h hp) (fun m9 q9 => ?_)
  refine j_vret dX12_opens_12 rfl ?_
  exact ⟨rfl, q9⟩
theorem r_opensB (E Eb n o : Nat) (m0 : Mem) (fb : PT → PT) (ho : o < 5) (hn : n ≤ 50) (hEb : Nat.blt Eb (E + 2) = true) (Gb : GB n fb) (hb : KM l g mX12_unit Eb n (o + 1) m0 fb) (m : Mem) (s : PT) (h : RR o m0 m s) (ok : s.2.2 = true) (lt : s.1 < n) (hl : s.2.1.length ≤ s.1) : JM l g (E + 2) mX12_opens [rf g 68, .int 33] m (RS none (fun m' => RR o m0 m' (wrF 20033 (fb (avF s))))) := by
  have gb := Gb (avF s) ok lt
  have g3 : (fb (avF s)).2.1.length + (s.1 + 1) ≤ (fb (avF s)).1 + s.2.1.length := gb.2.2
  refine JM_of (ls := [some (rf g 68), some (.int 33)]) pn_X12 rfl rfl ?_
  refine j_aload0 1 dX12_opens_0 rfl ?_
  refine j_getI 4 dX12_opens_1 rfl fl_X12_100 rfl rfl ?_
  refine j_top h.2.2.1 ?_
  refine j_iconst 5 (v := 5) dX12_opens_4 rfl rfl ?_
  refine j_cmp_ne 13 8 dX12_opens_5 rfl rfl (fun h5 => ?_) (fun h5 => absurd h5 (fun q => by have := (nI_eq (a := o) (b := 5) (by omega) (by decide)).mp q; omega))
  refine j_aload0 14 dX12_opens_13 rfl ?_
  refine j_dup 15 dX12_opens_14 rfl rfl ?_
  refine j_getI 18 dX12_opens_15 rfl fl_X12_100 rfl rfl ?_
  refine j_top h.2.2.1 ?_
  refine j_iconst 19 (v := 1) dX12_opens_18 rfl rfl ?_
  refine j_iadd 20 dX12_opens_19 rfl ?_
  refine j_top (nI_1 o) ?_
  refine j_putI 23 dX12_opens_20 rfl fp_X12_100 rfl rfl ?_
  refine j_aload0 24 dX12_opens_23 rfl ?_
  refine j_dup 25 dX12_opens_24 rfl rfl ?_
  refine j_getI 28 dX12_opens_25 rfl fl_X12_53 rfl rfl ?_
  refine j_top ((up2_k (by decide)).trans h.1) ?_
  refine j_iconst 29 (v := 1) dX12_opens_28 rfl rfl ?_
  refine j_iadd 30 dX12_opens_29 rfl ?_
  refine j_top (nI_1 s.1) ?_
  refine j_putI 33 dX12_opens_30 rfl fp_X12_53 rfl rfl ?_
  refine j_iload1 34 dX12_opens_33 rfl ?_
  refine j_bipush 36 (v := 33) dX12_opens_34 rfl rfl ?_
  refine j_cmp_ne 53 39 dX12_opens_36 rfl rfl (fun h36 => absurd h36 (fun q => q rfl)) (fun h36 => ?_)
  refine j_aload0 40 dX12_opens_39 rfl ?_
  refine j_vi0w 43 dX12_opens_40 rfl hEb cl_X12_97 rfl rfl (hb _ (avF s) (RR_av (RR_op h) ok) ok lt (show s.2.1.length ≤ s.1 + 1 by omega)) (fun m40 q40 => ?_)
  refine j_aload0 44 dX12_opens_43 rfl ?_
  refine j_sipush 47 (v := 20033) dX12_opens_44 rfl rfl ?_
  refine j_vi1w 50 dX12_opens_47 rfl rfl cl_X12_84 rfl rfl (r_lay m40 m0 (o + 1) (fb (avF s)) 20033 q40 (fun _ => by have := gb.2.1; omega) (by have := gb.2.1; omega)) (fun m47 q47 => ?_)
  refine j_goto 70 dX12_opens_50 rfl ?_
  refine j_aload0 71 dX12_opens_70 rfl ?_
  refine j_dup 72 dX12_opens_71 rfl rfl ?_
  refine j_getI 75 dX12_opens_72 rfl fl_X12_100 rfl rfl ?_
  refine j_top q47.2.2.1 ?_
  refine j_iconst 76 (v := 1) dX12_opens_75 rfl rfl ?_
  refine j_isub 77 dX12_opens_76 rfl ?_
  refine j_top (nI_pred o) ?_
  refine j_putI 80 dX12_opens_77 rfl fp_X12_100 rfl rfl ?_
  refine j_vret dX12_opens_80 rfl ?_
  exact ⟨rfl, RR_op q47⟩
theorem r_opensL (E El n o u : Nat) (m0 : Mem) (t : Nat → Int32) (fl : PT → PT) (ho : o < 5) (hx : RX m0 t n u) (hEl : Nat.blt El (E + 2) = true) (Gl : GB n fl) (hl1 : KM l g mX12_either El n (o + 1) m0 fl) (m : Mem) (s : PT) (h : RR o m0 m s) (ok : s.2.2 = true) (lt : s.1 < n) (hl : s.2.1.length ≤ s.1) : JM l g (E + 2) mX12_opens [rf g 68, .int 40] m (RS none (fun m' => RR o m0 m' (clF t n (fl (avF s))))) := by
  have hn := hx.2.2.2.2
  have gl := Gl (avF s) ok lt
  have tl : ∀ m1, RR (o + 1) m0 m1 (clF t n (fl (avF s))) → J l g (E + 2) mX12_opens 70 [some (rf g 68), some (.int 40)] [] m1 (RS none (fun m' => RR o m0 m' (clF t n (fl (avF s))))) := by
    intro m1 h1
    refine j_aload0 71 dX12_opens_70 rfl ?_
    refine j_dup 72 dX12_opens_71 rfl rfl ?_
    refine j_getI 75 dX12_opens_72 rfl fl_X12_100 rfl rfl ?_
    refine j_top h1.2.2.1 ?_
    refine j_iconst 76 (v := 1) dX12_opens_75 rfl rfl ?_
    refine j_isub 77 dX12_opens_76 rfl ?_
    refine j_top (nI_pred o) ?_
    refine j_putI 80 dX12_opens_77 rfl fp_X12_100 rfl rfl ?_
    refine j_vret dX12_opens_80 rfl ?_
    exact ⟨rfl, RR_op h1⟩
  refine JM_of (ls := [some (rf g 68), some (.int 40)]) pn_X12 rfl rfl ?_
  refine j_aload0 1 dX12_opens_0 rfl ?_
  refine j_getI 4 dX12_opens_1 rfl fl_X12_100 rfl rfl ?_
  refine j_top h.2.2.1 ?_
  refine j_iconst 5 (v := 5) dX12_opens_4 rfl rfl ?_
  refine j_cmp_ne 13 8 dX12_opens_5 rfl rfl (fun h5 => ?_) (fun h5 => absurd h5 (fun q => by have := (nI_eq (a := o) (b := 5) (by omega) (by decide)).mp q; omega))
  refine j_aload0 14 dX12_opens_13 rfl ?_
  refine j_dup 15 dX12_opens_14 rfl rfl ?_
  refine j_getI 18 dX12_opens_15 rfl fl_X12_100 rfl rfl ?_
  refine j_top h.2.2.1 ?_
  refine j_iconst 19 (v := 1) dX12_opens_18 rfl rfl ?_
  refine j_iadd 20 dX12_opens_19 rfl ?_
  refine j_top (nI_1 o) ?_
  refine j_putI 23 dX12_opens_20 rfl fp_X12_100 rfl rfl ?_
  refine j_aload0 24 dX12_opens_23 rfl ?_
  refine j_dup 25 dX12_opens_24 rfl rfl ?_
  refine j_getI 28 dX12_opens_25 rfl fl_X12_53 rfl rfl ?_
  refine j_top ((up2_k (by decide)).trans h.1) ?_
  refine j_iconst 29 (v := 1) dX12_opens_28 rfl rfl ?_
  refine j_iadd 30 dX12_opens_29 rfl ?_
  refine j_top (nI_1 s.1) ?_
  refine j_putI 33 dX12_opens_30 rfl fp_X12_53 rfl rfl ?_
  refine j_iload1 34 dX12_opens_33 rfl ?_
  refine j_bipush 36 (v := 33) dX12_opens_34 rfl rfl ?_
  refine j_cmp_ne 53 39 dX12_opens_36 rfl rfl (fun h36 => ?_) (fun h36 => absurd h36 (by decide))
  refine j_aload0 54 dX12_opens_53 rfl ?_
  refine j_vi0w 57 dX12_opens_54 rfl hEl cl_X12_106 rfl rfl (hl1 _ (avF s) (RR_av (RR_op h) ok) ok lt (show s.2.1.length ≤ s.1 + 1 by omega)) (fun m54 q54 => ?_)
  refine j_aload0 58 dX12_opens_57 rfl ?_
  refine j_bipush 60 (v := 41) dX12_opens_58 rfl rfl ?_
  refine j_vi1s 63 dX12_opens_60 rfl rfl cl_X12_80 rfl rfl (r_takes m54 m0 (o + 1) (fl (avF s)) t n u 41 (by decide) hx q54 gl.2.1) (fun m60 q60 => ?_)
  refine j_if_ne_bz 70 66 dX12_opens_63 rfl rfl (fun h63 => ?_) (fun h63 => ?_)
  · first | (refine tl m67 ?_; unfold clF; rw [if_neg (fun q => h63 (by unfold hrF; rw [if_pos q.1]; exact q.2))]; exact q67) | (rw [if_pos h63] at q60; refine tl m60 ?_; have hk := hr_ok h63 (by decide); unfold clF; rw [if_pos hk]; exact q60)
  · rw [if_neg h63] at q60
    refine j_aload0 67 dX12_opens_66 rfl ?_
    refine j_vi0w 70 dX12_opens_67 rfl rfl cl_X12_103 rfl rfl (r_wrong m60 m0 (o + 1) (fl (avF s)) q60 (by have := gl.2.1; omega)) (fun m67 q67 => ?_)
    first | (refine tl m67 ?_; unfold clF; rw [if_neg (fun q => h63 (by unfold hrF; rw [if_pos q.1]; exact q.2))]; exact q67) | (rw [if_pos h63] at q60; refine tl m60 ?_; have hk := hr_ok h63 (by decide); unfold clF; rw [if_pos hk]; exact q60)
set_option maxRecDepth 100000 in
theorem lp_dig {Q : Option Value → Mem → Prop} (D : Nat) (m0 : Mem) (t : Nat → Int32) (n u o : Nat) (hx : RX m0 t n u) (ol : List Int32) (c1 c2 : Int32) : ∀ (k i : Nat) (m : Mem) (p a : Nat), i + k = 4 → RR o m0 m (p, ol, true) → p ≤ n → (∀ m' i', i ≤ i' → i' ≤ 4 → (k ≠ 0 → dgP (sgF t n p) → i < i') → (¬ dgP (sgF t n p) → i' = i) → RR o m0 m' ((dgF t n k p a).1, ol, true) → J l g (D + 7) mX12_unit 110 [some (rf g 68), some (.int c1), some (.int c2), some (.int (nI (dgF t n k p a).2)), some (.int (nI i'))] [] m' Q) → J l g (D + 7) mX12_unit 58 [some (rf g 68), some (.int c1), some (.int c2), some (.int (nI a)), some (.int (nI i))] [] m Q := by
  intro k
  induction k with
  | zero =>
    intro i m p a e h hp kk
    have e : i = 4 := by omega
    subst e
    refine j_iload4 60 dX12_unit_58 rfl ?_
    refine j_iconst 61 (v := 4) dX12_unit_60 rfl rfl ?_
    refine j_cmp_ge 110 64 dX12_unit_61 rfl rfl (fun h61 => ?_) (fun h61 => absurd (by decide) h61)
    exact kk m 4 (Nat.le_refl _) (Nat.le_refl _) (fun z => absurd rfl z) (fun _ => rfl) h
  | succ k ih =>
    intro i m p a e h hp kk
    have e2 : nI i + 1 = nI (i + 1) := nI_1 i
    have eh : hrF t n (p, ol, true) = sgF t n p := if_pos rfl
    have hn := hx.2.2.2.2
    by_cases hd : dgP (sgF t n p)
    · obtain ⟨b, b1, b2, eb⟩ := dg_c hd
      have hlt := sg_lt (t := t) (n := n) (p := p) (fun z => by rw [z] at hd; exact absurd hd.1 (by decide))
      refine j_iload4 60 dX12_unit_58 rfl ?_
      refine j_iconst 61 (v := 4) dX12_unit_60 rfl rfl ?_
      refine j_cmp_ge 110 64 dX12_unit_61 rfl rfl (fun h61 => absurd h61 (nI_ge (a := i) (b := 4) (by omega) (by decide))) (fun h61 => ?_)
      refine j_aload0 65 dX12_unit_64 rfl ?_
      refine j_vi0f 68 dX12_unit_65 rfl rfl cl_X12_66 rfl rfl (r_here m m0 o (p, ol, true) t n u hx h hp) ?_
      refine j_top eh ?_
      refine j_i2l 69 dX12_unit_68 rfl ?_
      refine j_ldc2 72 dX12_unit_69 rfl kl_X12_116 ?_
      refine j_ldc2 75 dX12_unit_72 rfl kl_X12_118 ?_
      refine j_st3f 78 dX12_unit_75 rfl rfl cl_X12_47 rfl (c_in m _ 48 57) ?_
      refine j_if_eq_bz 110 81 dX12_unit_78 rfl rfl (fun h78 => absurd hd h78) (fun h78 => ?_)
      refine j_bipush 83 (v := nI 10) dX12_unit_81 rfl rfl ?_
      refine j_iload3 84 dX12_unit_83 rfl ?_
      refine j_imulN 85 dX12_unit_84 rfl ?_
      refine j_aload0 86 dX12_unit_85 rfl ?_
      refine j_vi0f 89 dX12_unit_86 rfl rfl cl_X12_66 rfl rfl (r_here m m0 o (p, ol, true) t n u hx h hp) ?_
      refine j_top (eh.trans eb) ?_
      refine j_iaddN 90 dX12_unit_89 rfl ?_
      refine j_bipush 92 (v := nI 48) dX12_unit_90 rfl rfl ?_
      refine j_isub 93 dX12_unit_92 rfl ?_
      refine j_top (show nI (10 * a + b) - nI 48 = nI (10 * a + (b - 48)) by rw [pk_sub (by omega)]; congr 1; omega) ?_
      refine j_istore3 94 dX12_unit_93 rfl rfl rfl ?_
      refine j_aload0 95 dX12_unit_94 rfl ?_
      refine j_dup 96 dX12_unit_95 rfl rfl ?_
      refine j_getI 99 dX12_unit_96 rfl fl_X12_53 rfl rfl ?_
      refine j_top h.1 ?_
      refine j_iconst 100 (v := 1) dX12_unit_99 rfl rfl ?_
      refine j_iadd 101 dX12_unit_100 rfl ?_
      refine j_top (nI_1 p) ?_
      refine j_putI 104 dX12_unit_101 rfl fp_X12_53 rfl rfl ?_
      refine j_iinc4 107 (1) dX12_unit_104 rfl rfl rfl rfl ?_
      refine j_goto 58 dX12_unit_107 rfl ?_
      rw [e2]
      refine ih (i + 1) _ (p + 1) (10 * a + (b - 48)) (by omega) (RR_av h rfl) hlt (fun m' i' h1 h2 h3 h4 hr => ?_)
      have kk1 := kk m' i' (by omega) h2 (fun _ _ => by omega) (fun z => absurd hd z)
      rw [show dgF t n (k + 1) p a = dgF t n k (p + 1) (10 * a + ((sgF t n p).toNatClampNeg - 48)) from if_pos hd, eb, nI_clamp (by omega)] at kk1
      exact kk1 hr
    · refine j_iload4 60 dX12_unit_58 rfl ?_
      refine j_iconst 61 (v := 4) dX12_unit_60 rfl rfl ?_
      refine j_cmp_ge 110 64 dX12_unit_61 rfl rfl (fun h61 => absurd h61 (nI_ge (a := i) (b := 4) (by omega) (by decide))) (fun h61 => ?_)
      refine j_aload0 65 dX12_unit_64 rfl ?_
      refine j_vi0f 68 dX12_unit_65 rfl rfl cl_X12_66 rfl rfl (r_here m m0 o (p, ol, true) t n u hx h hp) ?_
      refine j_top eh ?_
      refine j_i2l 69 dX12_unit_68 rfl ?_
      refine j_ldc2 72 dX12_unit_69 rfl kl_X12_116 ?_
      refine j_ldc2 75 dX12_unit_72 rfl kl_X12_118 ?_
      refine j_st3f 78 dX12_unit_75 rfl rfl cl_X12_47 rfl (c_in m _ 48 57) ?_
      refine j_if_eq_bz 110 81 dX12_unit_78 rfl rfl (fun h78 => ?_) (fun h78 => absurd h78 hd)
      have kk1 := kk m i (Nat.le_refl _) (by omega) (fun _ z => absurd z hd) (fun _ => rfl)
      rw [show dgF t n (k + 1) p a = (p, a) from if_neg hd] at kk1
      exact kk1 h
set_option maxRecDepth 100000 in
theorem unit_0 (E Eb El n o : Nat) (m0 : Mem) (t : Nat → Int32) (op : Bool) (fb fl : PT → PT) (hx : RX m0 t n 0) (ho : o ≤ 5) (hop : op = true ↔ o < 5) (hEb : Nat.blt Eb (E + 6) = true) (hEl : Nat.blt El (E + 6) = true) (Gb : op = true → GB n fb) (Gl : op = true → GB n fl) (hb : op = true → KM l g mX12_unit Eb n (o + 1) m0 fb) (hl1 : op = true → KM l g mX12_either El n (o + 1) m0 fl) : KM l g mX12_unit (E + 7) n o m0 (ptF t n 0 op fb fl) := by
  intro m s h ok hp hlen
  have hn := hx.2.2.2.2
  have eh : hrF t n s = sgF t n s.1 := if_pos ok
  have h10 : m 68 10 = nI 0 := (h.2.2.2.2.2 10 (by decide) (by decide) (by decide) (by decide)).trans hx.2.2.1
  refine JM_of (ls := [some (rf g 68), none, none, none, none]) pn_X12 rfl rfl ?_
  by_cases c33 : sgF t n s.1 = 33
  · have n1 : ¬ dgP (sgF t n s.1) := by rw [c33]; decide
    have n2 : ¬ 0 ≤ nmF 0 (sgF t n s.1) := by rw [c33]; decide
    have lt := sg_lt (t := t) (n := n) (p := s.1) (by rw [c33]; decide)
    have hop1 : JM l g (E + 6) mX12_opens [rf g 68, .int 33] m (RS none (fun m' => RR o m0 m' (ptF t n 0 op fb fl s))) ∨ (o = 5 ∧ JM l g 1 mX12_opens [rf g 68, .int 33] m (RS none (fun m' => RR o m0 m' (ptF t n 0 op fb fl s)))) := by
      by_cases q : op = true
      · left
        have e : ptF t n 0 op fb fl s = wrF 20033 (fb (avF s)) := by unfold ptF; rw [if_neg n1, if_neg n2, if_pos ⟨c33, q⟩]
        rw [e]
        exact r_opensB (E + 4) Eb n o m0 fb (hop.mp q) hn hEb (Gb q) (hb q) m s h ok lt hlen
      · right
        have o5 : o = 5 := by
          by_cases z : o < 5
          · exact absurd (hop.mpr z) q
          · omega
        subst o5
        have e : ptF t n 0 op fb fl s = flF s := by unfold ptF; rw [if_neg n1, if_neg n2, if_neg (fun z => q z.2), if_neg (fun z => q z.2)]
        rw [e]
        exact ⟨rfl, r_opens5 m m0 s 33 h (by omega)⟩
    rcases hop1 with hq | ⟨-, hq⟩
    · refine j_aload0 1 dX12_unit_0 rfl ?_
      refine j_vi0f 4 dX12_unit_1 rfl rfl cl_X12_66 rfl rfl (r_here m m0 o s t n 0 hx h hp) ?_
      refine j_top (eh.trans c33) ?_
      refine j_istore1 5 dX12_unit_4 rfl rfl rfl ?_
      refine j_iload1 6 dX12_unit_5 rfl ?_
      refine j_bipush 8 (v := 33) dX12_unit_6 rfl rfl ?_
      refine j_cmp_eq 17 11 dX12_unit_8 rfl rfl (fun h8 => ?_) (fun h8 => absurd rfl h8)
      refine j_aload0 18 dX12_unit_17 rfl ?_
      refine j_iload1 19 dX12_unit_18 rfl ?_
      refine j_vi1w 22 dX12_unit_19 rfl (blt_ok (Nat.lt_succ_self (E + 6))) cl_X12_109 rfl rfl (hq) (fun m19 q19 => ?_)
      refine j_vret dX12_unit_22 rfl ?_
      exact ⟨rfl, q19⟩
    · refine j_aload0 1 dX12_unit_0 rfl ?_
      refine j_vi0f 4 dX12_unit_1 rfl rfl cl_X12_66 rfl rfl (r_here m m0 o s t n 0 hx h hp) ?_
      refine j_top (eh.trans c33) ?_
      refine j_istore1 5 dX12_unit_4 rfl rfl rfl ?_
      refine j_iload1 6 dX12_unit_5 rfl ?_
      refine j_bipush 8 (v := 33) dX12_unit_6 rfl rfl ?_
      refine j_cmp_eq 17 11 dX12_unit_8 rfl rfl (fun h8 => ?_) (fun h8 => absurd rfl h8)
      refine j_aload0 18 dX12_unit_17 rfl ?_
      refine j_iload1 19 dX12_unit_18 rfl ?_
      refine j_vi1w 22 dX12_unit_19 rfl rfl cl_X12_109 rfl rfl (hq) (fun m19 q19 => ?_)
      refine j_vret dX12_unit_22 rfl ?_
      exact ⟨rfl, q19⟩
  · by_cases c40 : sgF t n s.1 = 40
    · have n1 : ¬ dgP (sgF t n s.1) := by rw [c40]; decide
      have n2 : ¬ 0 ≤ nmF 0 (sgF t n s.1) := by rw [c40]; decide
      have lt := sg_lt (t := t) (n := n) (p := s.1) (by rw [c40]; decide)
      have hop1 : JM l g (E + 6) mX12_opens [rf g 68, .int 40] m (RS none (fun m' => RR o m0 m' (ptF t n 0 op fb fl s))) ∨ (o = 5 ∧ JM l g 1 mX12_opens [rf g 68, .int 40] m (RS none (fun m' => RR o m0 m' (ptF t n 0 op fb fl s)))) := by
        by_cases q : op = true
        · left
          have e : ptF t n 0 op fb fl s = clF t n (fl (avF s)) := by unfold ptF; rw [if_neg n1, if_neg n2, if_neg (fun z => c33 z.1), if_pos ⟨c40, q⟩]
          rw [e]
          exact r_opensL (E + 4) El n o 0 m0 t fl (hop.mp q) hx hEl (Gl q) (hl1 q) m s h ok lt hlen
        · right
          have o5 : o = 5 := by
            by_cases z : o < 5
            · exact absurd (hop.mpr z) q
            · omega
          subst o5
          have e : ptF t n 0 op fb fl s = flF s := by unfold ptF; rw [if_neg n1, if_neg n2, if_neg (fun z => q z.2), if_neg (fun z => q z.2)]
          rw [e]
          exact ⟨rfl, r_opens5 m m0 s 40 h (by omega)⟩
      rcases hop1 with hq | ⟨-, hq⟩
      · refine j_aload0 1 dX12_unit_0 rfl ?_
        refine j_vi0f 4 dX12_unit_1 rfl rfl cl_X12_66 rfl rfl (r_here m m0 o s t n 0 hx h hp) ?_
        refine j_top (eh.trans c40) ?_
        refine j_istore1 5 dX12_unit_4 rfl rfl rfl ?_
        refine j_iload1 6 dX12_unit_5 rfl ?_
        refine j_bipush 8 (v := 33) dX12_unit_6 rfl rfl ?_
        refine j_cmp_eq 17 11 dX12_unit_8 rfl rfl (fun h8 => absurd h8 (by decide)) (fun h8 => ?_)
        refine j_iload1 12 dX12_unit_11 rfl ?_
        refine j_bipush 14 (v := 40) dX12_unit_12 rfl rfl ?_
        refine j_cmp_ne 23 17 dX12_unit_14 rfl rfl (fun h14 => absurd h14 (fun q => q rfl)) (fun h14 => ?_)
        refine j_aload0 18 dX12_unit_17 rfl ?_
        refine j_iload1 19 dX12_unit_18 rfl ?_
        refine j_vi1w 22 dX12_unit_19 rfl (blt_ok (Nat.lt_succ_self (E + 6))) cl_X12_109 rfl rfl (hq) (fun m19 q19 => ?_)
        refine j_vret dX12_unit_22 rfl ?_
        exact ⟨rfl, q19⟩
      · refine j_aload0 1 dX12_unit_0 rfl ?_
        refine j_vi0f 4 dX12_unit_1 rfl rfl cl_X12_66 rfl rfl (r_here m m0 o s t n 0 hx h hp) ?_
        refine j_top (eh.trans c40) ?_
        refine j_istore1 5 dX12_unit_4 rfl rfl rfl ?_
        refine j_iload1 6 dX12_unit_5 rfl ?_
        refine j_bipush 8 (v := 33) dX12_unit_6 rfl rfl ?_
        refine j_cmp_eq 17 11 dX12_unit_8 rfl rfl (fun h8 => absurd h8 (by decide)) (fun h8 => ?_)
        refine j_iload1 12 dX12_unit_11 rfl ?_
        refine j_bipush 14 (v := 40) dX12_unit_12 rfl rfl ?_
        refine j_cmp_ne 23 17 dX12_unit_14 rfl rfl (fun h14 => absurd h14 (fun q => q rfl)) (fun h14 => ?_)
        refine j_aload0 18 dX12_unit_17 rfl ?_
        refine j_iload1 19 dX12_unit_18 rfl ?_
        refine j_vi1w 22 dX12_unit_19 rfl rfl cl_X12_109 rfl rfl (hq) (fun m19 q19 => ?_)
        refine j_vret dX12_unit_22 rfl ?_
        exact ⟨rfl, q19⟩
    · by_cases n2 : 0 ≤ nmF 0 (sgF t n s.1)
      · have n1 : ¬ dgP (sgF t n s.1) := fun q => dg_nm (by decide) q n2
        have lt := sg_lt (t := t) (n := n) (p := s.1) (fun z => by rw [z, nm_m1 (by decide)] at n2; exact absurd n2 (by decide))
        have e : ptF t n 0 op fb fl s = wrF (10000 + nmF 0 (sgF t n s.1)) (avF s) := by unfold ptF; rw [if_neg n1, if_pos n2]
        rw [e]
        refine j_aload0 1 dX12_unit_0 rfl ?_
        refine j_vi0f 4 dX12_unit_1 rfl rfl cl_X12_66 rfl rfl (r_here m m0 o s t n 0 hx h hp) ?_
        refine j_top eh ?_
        refine j_istore1 5 dX12_unit_4 rfl rfl rfl ?_
        refine j_iload1 6 dX12_unit_5 rfl ?_
        refine j_bipush 8 (v := 33) dX12_unit_6 rfl rfl ?_
        refine j_cmp_eq 17 11 dX12_unit_8 rfl rfl (fun h8 => absurd h8 c33) (fun h8 => ?_)
        refine j_iload1 12 dX12_unit_11 rfl ?_
        refine j_bipush 14 (v := 40) dX12_unit_12 rfl rfl ?_
        refine j_cmp_ne 23 17 dX12_unit_14 rfl rfl (fun h14 => ?_) (fun h14 => absurd h14 c40)
        refine j_aload0 24 dX12_unit_23 rfl ?_
        refine j_iload1 25 dX12_unit_24 rfl ?_
        refine j_vi1f 28 dX12_unit_25 rfl rfl cl_X12_112 rfl rfl (r_name_0 m _ h10) ?_
        refine j_istore2 29 dX12_unit_28 rfl rfl rfl ?_
        refine j_iload2 30 dX12_unit_29 rfl ?_
        refine j_if_lt 53 33 dX12_unit_30 rfl rfl (fun h30 => absurd h30 (Int32.not_lt.mpr n2)) (fun h30 => ?_)
        refine j_aload0 34 dX12_unit_33 rfl ?_
        refine j_dup 35 dX12_unit_34 rfl rfl ?_
        refine j_getI 38 dX12_unit_35 rfl fl_X12_53 rfl rfl ?_
        refine j_top h.1 ?_
        refine j_iconst 39 (v := 1) dX12_unit_38 rfl rfl ?_
        refine j_iadd 40 dX12_unit_39 rfl ?_
        refine j_top (nI_1 s.1) ?_
        refine j_putI 43 dX12_unit_40 rfl fp_X12_53 rfl rfl ?_
        refine j_aload0 44 dX12_unit_43 rfl ?_
        refine j_sipush 47 (v := 10000) dX12_unit_44 rfl rfl ?_
        refine j_iload2 48 dX12_unit_47 rfl ?_
        refine j_iadd 49 dX12_unit_48 rfl ?_
        refine j_vi1w 52 dX12_unit_49 rfl rfl cl_X12_84 rfl rfl (r_lay _ m0 o (avF s) (10000 + nmF 0 (sgF t n s.1)) (RR_av h ok) (fun _ => show s.2.1.length < 60 by omega) (show s.1 + 1 < 2 ^ 31 by omega)) (fun m49 q49 => ?_)
        refine j_vret dX12_unit_52 rfl ?_
        exact ⟨rfl, q49⟩
      · have h1 : RR o m0 m (s.1, s.2.1, true) := by rw [← ok]; exact h
        by_cases n1 : dgP (sgF t n s.1)
        · have e : ptF t n 0 op fb fl s = nuF t n s := by unfold ptF; rw [if_pos n1]
          have dl := dg_le t n 4 s.1 0 hp
          rw [e]
          have tl : ∀ m' i', 0 ≤ i' → i' ≤ 4 → (4 ≠ 0 → dgP (sgF t n s.1) → 0 < i') → (¬ dgP (sgF t n s.1) → i' = 0) → RR o m0 m' ((dgF t n 4 s.1 0).1, s.2.1, true) → J l g (E + 7) mX12_unit 110 [some (rf g 68), some (.int (sgF t n s.1)), some (.int (nmF 0 (sgF t n s.1))), some (.int (nI (dgF t n 4 s.1 0).2)), some (.int (nI i'))] [] m' (RS none (fun m' => RR o m0 m' (nuF t n s))) := by
            intro m' i' _ i4 i1 _ hr
            refine j_iload4 112 dX12_unit_110 rfl ?_
            refine j_if_ne 119 115 dX12_unit_112 rfl rfl (fun h112 => ?_) (fun h112 => absurd h112 (nI_ne0 (i1 (by decide) n1) (by omega)))
            refine j_aload0 120 dX12_unit_119 rfl ?_
            refine j_iload3 121 dX12_unit_120 rfl ?_
            refine j_vi1w 124 dX12_unit_121 rfl rfl cl_X12_84 rfl rfl (r_lay m' m0 o ((dgF t n 4 s.1 0).1, s.2.1, true) _ hr (fun _ => show s.2.1.length < 60 by omega) (show (dgF t n 4 s.1 0).1 < 2 ^ 31 by omega)) (fun m121 q121 => ?_)
            refine j_vret dX12_unit_124 rfl ?_
            exact ⟨rfl, by unfold nuF; rw [ok]; exact q121⟩
          refine j_aload0 1 dX12_unit_0 rfl ?_
          refine j_vi0f 4 dX12_unit_1 rfl rfl cl_X12_66 rfl rfl (r_here m m0 o s t n 0 hx h hp) ?_
          refine j_top eh ?_
          refine j_istore1 5 dX12_unit_4 rfl rfl rfl ?_
          refine j_iload1 6 dX12_unit_5 rfl ?_
          refine j_bipush 8 (v := 33) dX12_unit_6 rfl rfl ?_
          refine j_cmp_eq 17 11 dX12_unit_8 rfl rfl (fun h8 => absurd h8 c33) (fun h8 => ?_)
          refine j_iload1 12 dX12_unit_11 rfl ?_
          refine j_bipush 14 (v := 40) dX12_unit_12 rfl rfl ?_
          refine j_cmp_ne 23 17 dX12_unit_14 rfl rfl (fun h14 => ?_) (fun h14 => absurd h14 c40)
          refine j_aload0 24 dX12_unit_23 rfl ?_
          refine j_iload1 25 dX12_unit_24 rfl ?_
          refine j_vi1f 28 dX12_unit_25 rfl rfl cl_X12_112 rfl rfl (r_name_0 m _ h10) ?_
          refine j_istore2 29 dX12_unit_28 rfl rfl rfl ?_
          refine j_iload2 30 dX12_unit_29 rfl ?_
          refine j_if_lt 53 33 dX12_unit_30 rfl rfl (fun h30 => ?_) (fun h30 => absurd (Int32.not_le.mp n2) h30)
          refine j_iconst 54 (v := 0) dX12_unit_53 rfl rfl ?_
          refine j_istore3 55 dX12_unit_54 rfl rfl rfl ?_
          refine j_iconst 56 (v := 0) dX12_unit_55 rfl rfl ?_
          refine j_istore4 58 dX12_unit_56 rfl rfl rfl ?_
          exact lp_dig E m0 t n 0 o hx s.2.1 _ _ 4 0 m s.1 0 rfl h1 hp tl
        · have e : ptF t n 0 op fb fl s = flF s := by unfold ptF; rw [if_neg n1, if_neg n2, if_neg (fun z => c33 z.1), if_neg (fun z => c40 z.1)]
          have ed : dgF t n 4 s.1 0 = (s.1, 0) := if_neg n1
          rw [e]
          have tl : ∀ m' i', 0 ≤ i' → i' ≤ 4 → (4 ≠ 0 → dgP (sgF t n s.1) → 0 < i') → (¬ dgP (sgF t n s.1) → i' = 0) → RR o m0 m' ((dgF t n 4 s.1 0).1, s.2.1, true) → J l g (E + 7) mX12_unit 110 [some (rf g 68), some (.int (sgF t n s.1)), some (.int (nmF 0 (sgF t n s.1))), some (.int (nI (dgF t n 4 s.1 0).2)), some (.int (nI i'))] [] m' (RS none (fun m' => RR o m0 m' (flF s))) := by
            intro m' i' _ i4 _ i1 hr
            have i0 := i1 n1
            subst i0
            rw [ed] at hr
            refine j_iload4 112 dX12_unit_110 rfl ?_
            refine j_if_ne 119 115 dX12_unit_112 rfl rfl (fun h112 => absurd h112 (fun q => q rfl)) (fun h112 => ?_)
            refine j_aload0 116 dX12_unit_115 rfl ?_
            refine j_vi0w 119 dX12_unit_116 rfl rfl cl_X12_103 rfl rfl (r_wrong m' m0 o (s.1, s.2.1, true) hr (show s.1 < 2 ^ 31 by omega)) (fun m116 q116 => ?_)
            refine j_aload0 120 dX12_unit_119 rfl ?_
            refine j_iload3 121 dX12_unit_120 rfl ?_
            refine j_vi1w 124 dX12_unit_121 rfl rfl cl_X12_84 rfl rfl (r_lay m116 m0 o (flF s) _ q116 (fun z => by cases z) (show s.1 < 2 ^ 31 by omega)) (fun m121 q121 => ?_)
            refine j_vret dX12_unit_124 rfl ?_
            exact ⟨rfl, q121⟩
          refine j_aload0 1 dX12_unit_0 rfl ?_
          refine j_vi0f 4 dX12_unit_1 rfl rfl cl_X12_66 rfl rfl (r_here m m0 o s t n 0 hx h hp) ?_
          refine j_top eh ?_
          refine j_istore1 5 dX12_unit_4 rfl rfl rfl ?_
          refine j_iload1 6 dX12_unit_5 rfl ?_
          refine j_bipush 8 (v := 33) dX12_unit_6 rfl rfl ?_
          refine j_cmp_eq 17 11 dX12_unit_8 rfl rfl (fun h8 => absurd h8 c33) (fun h8 => ?_)
          refine j_iload1 12 dX12_unit_11 rfl ?_
          refine j_bipush 14 (v := 40) dX12_unit_12 rfl rfl ?_
          refine j_cmp_ne 23 17 dX12_unit_14 rfl rfl (fun h14 => ?_) (fun h14 => absurd h14 c40)
          refine j_aload0 24 dX12_unit_23 rfl ?_
          refine j_iload1 25 dX12_unit_24 rfl ?_
          refine j_vi1f 28 dX12_unit_25 rfl rfl cl_X12_112 rfl rfl (r_name_0 m _ h10) ?_
          refine j_istore2 29 dX12_unit_28 rfl rfl rfl ?_
          refine j_iload2 30 dX12_unit_29 rfl ?_
          refine j_if_lt 53 33 dX12_unit_30 rfl rfl (fun h30 => ?_) (fun h30 => absurd (Int32.not_le.mp n2) h30)
          refine j_iconst 54 (v := 0) dX12_unit_53 rfl rfl ?_
          refine j_istore3 55 dX12_unit_54 rfl rfl rfl ?_
          refine j_iconst 56 (v := 0) dX12_unit_55 rfl rfl ?_
          refine j_istore4 58 dX12_unit_56 rfl rfl rfl ?_
          exact lp_dig E m0 t n 0 o hx s.2.1 _ _ 4 0 m s.1 0 rfl h1 hp tl
set_option maxRecDepth 100000 in
theorem unit_1 (E Eb El n o : Nat) (m0 : Mem) (t : Nat → Int32) (op : Bool) (fb fl : PT → PT) (hx : RX m0 t n 1) (ho : o ≤ 5) (hop : op = true ↔ o < 5) (hEb : Nat.blt Eb (E + 6) = true) (hEl : Nat.blt El (E + 6) = true) (Gb : op = true → GB n fb) (Gl : op = true → GB n fl) (hb : op = true → KM l g mX12_unit Eb n (o + 1) m0 fb) (hl1 : op = true → KM l g mX12_either El n (o + 1) m0 fl) : KM l g mX12_unit (E + 7) n o m0 (ptF t n 1 op fb fl) := by
  intro m s h ok hp hlen
  have hn := hx.2.2.2.2
  have eh : hrF t n s = sgF t n s.1 := if_pos ok
  have h10 : m 68 10 = nI 1 := (h.2.2.2.2.2 10 (by decide) (by decide) (by decide) (by decide)).trans hx.2.2.1
  refine JM_of (ls := [some (rf g 68), none, none, none, none]) pn_X12 rfl rfl ?_
  by_cases c33 : sgF t n s.1 = 33
  · have n1 : ¬ dgP (sgF t n s.1) := by rw [c33]; decide
    have n2 : ¬ 0 ≤ nmF 1 (sgF t n s.1) := by rw [c33]; decide
    have lt := sg_lt (t := t) (n := n) (p := s.1) (by rw [c33]; decide)
    have hop1 : JM l g (E + 6) mX12_opens [rf g 68, .int 33] m (RS none (fun m' => RR o m0 m' (ptF t n 1 op fb fl s))) ∨ (o = 5 ∧ JM l g 1 mX12_opens [rf g 68, .int 33] m (RS none (fun m' => RR o m0 m' (ptF t n 1 op fb fl s)))) := by
      by_cases q : op = true
      · left
        have e : ptF t n 1 op fb fl s = wrF 20033 (fb (avF s)) := by unfold ptF; rw [if_neg n1, if_neg n2, if_pos ⟨c33, q⟩]
        rw [e]
        exact r_opensB (E + 4) Eb n o m0 fb (hop.mp q) hn hEb (Gb q) (hb q) m s h ok lt hlen
      · right
        have o5 : o = 5 := by
          by_cases z : o < 5
          · exact absurd (hop.mpr z) q
          · omega
        subst o5
        have e : ptF t n 1 op fb fl s = flF s := by unfold ptF; rw [if_neg n1, if_neg n2, if_neg (fun z => q z.2), if_neg (fun z => q z.2)]
        rw [e]
        exact ⟨rfl, r_opens5 m m0 s 33 h (by omega)⟩
    rcases hop1 with hq | ⟨-, hq⟩
    · refine j_aload0 1 dX12_unit_0 rfl ?_
      refine j_vi0f 4 dX12_unit_1 rfl rfl cl_X12_66 rfl rfl (r_here m m0 o s t n 1 hx h hp) ?_
      refine j_top (eh.trans c33) ?_
      refine j_istore1 5 dX12_unit_4 rfl rfl rfl ?_
      refine j_iload1 6 dX12_unit_5 rfl ?_
      refine j_bipush 8 (v := 33) dX12_unit_6 rfl rfl ?_
      refine j_cmp_eq 17 11 dX12_unit_8 rfl rfl (fun h8 => ?_) (fun h8 => absurd rfl h8)
      refine j_aload0 18 dX12_unit_17 rfl ?_
      refine j_iload1 19 dX12_unit_18 rfl ?_
      refine j_vi1w 22 dX12_unit_19 rfl (blt_ok (Nat.lt_succ_self (E + 6))) cl_X12_109 rfl rfl (hq) (fun m19 q19 => ?_)
      refine j_vret dX12_unit_22 rfl ?_
      exact ⟨rfl, q19⟩
    · refine j_aload0 1 dX12_unit_0 rfl ?_
      refine j_vi0f 4 dX12_unit_1 rfl rfl cl_X12_66 rfl rfl (r_here m m0 o s t n 1 hx h hp) ?_
      refine j_top (eh.trans c33) ?_
      refine j_istore1 5 dX12_unit_4 rfl rfl rfl ?_
      refine j_iload1 6 dX12_unit_5 rfl ?_
      refine j_bipush 8 (v := 33) dX12_unit_6 rfl rfl ?_
      refine j_cmp_eq 17 11 dX12_unit_8 rfl rfl (fun h8 => ?_) (fun h8 => absurd rfl h8)
      refine j_aload0 18 dX12_unit_17 rfl ?_
      refine j_iload1 19 dX12_unit_18 rfl ?_
      refine j_vi1w 22 dX12_unit_19 rfl rfl cl_X12_109 rfl rfl (hq) (fun m19 q19 => ?_)
      refine j_vret dX12_unit_22 rfl ?_
      exact ⟨rfl, q19⟩
  · by_cases c40 : sgF t n s.1 = 40
    · have n1 : ¬ dgP (sgF t n s.1) := by rw [c40]; decide
      have n2 : ¬ 0 ≤ nmF 1 (sgF t n s.1) := by rw [c40]; decide
      have lt := sg_lt (t := t) (n := n) (p := s.1) (by rw [c40]; decide)
      have hop1 : JM l g (E + 6) mX12_opens [rf g 68, .int 40] m (RS none (fun m' => RR o m0 m' (ptF t n 1 op fb fl s))) ∨ (o = 5 ∧ JM l g 1 mX12_opens [rf g 68, .int 40] m (RS none (fun m' => RR o m0 m' (ptF t n 1 op fb fl s)))) := by
        by_cases q : op = true
        · left
          have e : ptF t n 1 op fb fl s = clF t n (fl (avF s)) := by unfold ptF; rw [if_neg n1, if_neg n2, if_neg (fun z => c33 z.1), if_pos ⟨c40, q⟩]
          rw [e]
          exact r_opensL (E + 4) El n o 1 m0 t fl (hop.mp q) hx hEl (Gl q) (hl1 q) m s h ok lt hlen
        · right
          have o5 : o = 5 := by
            by_cases z : o < 5
            · exact absurd (hop.mpr z) q
            · omega
          subst o5
          have e : ptF t n 1 op fb fl s = flF s := by unfold ptF; rw [if_neg n1, if_neg n2, if_neg (fun z => q z.2), if_neg (fun z => q z.2)]
          rw [e]
          exact ⟨rfl, r_opens5 m m0 s 40 h (by omega)⟩
      rcases hop1 with hq | ⟨-, hq⟩
      · refine j_aload0 1 dX12_unit_0 rfl ?_
        refine j_vi0f 4 dX12_unit_1 rfl rfl cl_X12_66 rfl rfl (r_here m m0 o s t n 1 hx h hp) ?_
        refine j_top (eh.trans c40) ?_
        refine j_istore1 5 dX12_unit_4 rfl rfl rfl ?_
        refine j_iload1 6 dX12_unit_5 rfl ?_
        refine j_bipush 8 (v := 33) dX12_unit_6 rfl rfl ?_
        refine j_cmp_eq 17 11 dX12_unit_8 rfl rfl (fun h8 => absurd h8 (by decide)) (fun h8 => ?_)
        refine j_iload1 12 dX12_unit_11 rfl ?_
        refine j_bipush 14 (v := 40) dX12_unit_12 rfl rfl ?_
        refine j_cmp_ne 23 17 dX12_unit_14 rfl rfl (fun h14 => absurd h14 (fun q => q rfl)) (fun h14 => ?_)
        refine j_aload0 18 dX12_unit_17 rfl ?_
        refine j_iload1 19 dX12_unit_18 rfl ?_
        refine j_vi1w 22 dX12_unit_19 rfl (blt_ok (Nat.lt_succ_self (E + 6))) cl_X12_109 rfl rfl (hq) (fun m19 q19 => ?_)
        refine j_vret dX12_unit_22 rfl ?_
        exact ⟨rfl, q19⟩
      · refine j_aload0 1 dX12_unit_0 rfl ?_
        refine j_vi0f 4 dX12_unit_1 rfl rfl cl_X12_66 rfl rfl (r_here m m0 o s t n 1 hx h hp) ?_
        refine j_top (eh.trans c40) ?_
        refine j_istore1 5 dX12_unit_4 rfl rfl rfl ?_
        refine j_iload1 6 dX12_unit_5 rfl ?_
        refine j_bipush 8 (v := 33) dX12_unit_6 rfl rfl ?_
        refine j_cmp_eq 17 11 dX12_unit_8 rfl rfl (fun h8 => absurd h8 (by decide)) (fun h8 => ?_)
        refine j_iload1 12 dX12_unit_11 rfl ?_
        refine j_bipush 14 (v := 40) dX12_unit_12 rfl rfl ?_
        refine j_cmp_ne 23 17 dX12_unit_14 rfl rfl (fun h14 => absurd h14 (fun q => q rfl)) (fun h14 => ?_)
        refine j_aload0 18 dX12_unit_17 rfl ?_
        refine j_iload1 19 dX12_unit_18 rfl ?_
        refine j_vi1w 22 dX12_unit_19 rfl rfl cl_X12_109 rfl rfl (hq) (fun m19 q19 => ?_)
        refine j_vret dX12_unit_22 rfl ?_
        exact ⟨rfl, q19⟩
    · by_cases n2 : 0 ≤ nmF 1 (sgF t n s.1)
      · have n1 : ¬ dgP (sgF t n s.1) := fun q => dg_nm (by decide) q n2
        have lt := sg_lt (t := t) (n := n) (p := s.1) (fun z => by rw [z, nm_m1 (by decide)] at n2; exact absurd n2 (by decide))
        have e : ptF t n 1 op fb fl s = wrF (10000 + nmF 1 (sgF t n s.1)) (avF s) := by unfold ptF; rw [if_neg n1, if_pos n2]
        rw [e]
        refine j_aload0 1 dX12_unit_0 rfl ?_
        refine j_vi0f 4 dX12_unit_1 rfl rfl cl_X12_66 rfl rfl (r_here m m0 o s t n 1 hx h hp) ?_
        refine j_top eh ?_
        refine j_istore1 5 dX12_unit_4 rfl rfl rfl ?_
        refine j_iload1 6 dX12_unit_5 rfl ?_
        refine j_bipush 8 (v := 33) dX12_unit_6 rfl rfl ?_
        refine j_cmp_eq 17 11 dX12_unit_8 rfl rfl (fun h8 => absurd h8 c33) (fun h8 => ?_)
        refine j_iload1 12 dX12_unit_11 rfl ?_
        refine j_bipush 14 (v := 40) dX12_unit_12 rfl rfl ?_
        refine j_cmp_ne 23 17 dX12_unit_14 rfl rfl (fun h14 => ?_) (fun h14 => absurd h14 c40)
        refine j_aload0 24 dX12_unit_23 rfl ?_
        refine j_iload1 25 dX12_unit_24 rfl ?_
        refine j_vi1f 28 dX12_unit_25 rfl rfl cl_X12_112 rfl rfl (r_name_1 m _ h10) ?_
        refine j_istore2 29 dX12_unit_28 rfl rfl rfl ?_
        refine j_iload2 30 dX12_unit_29 rfl ?_
        refine j_if_lt 53 33 dX12_unit_30 rfl rfl (fun h30 => absurd h30 (Int32.not_lt.mpr n2)) (fun h30 => ?_)
        refine j_aload0 34 dX12_unit_33 rfl ?_
        refine j_dup 35 dX12_unit_34 rfl rfl ?_
        refine j_getI 38 dX12_unit_35 rfl fl_X12_53 rfl rfl ?_
        refine j_top h.1 ?_
        refine j_iconst 39 (v := 1) dX12_unit_38 rfl rfl ?_
        refine j_iadd 40 dX12_unit_39 rfl ?_
        refine j_top (nI_1 s.1) ?_
        refine j_putI 43 dX12_unit_40 rfl fp_X12_53 rfl rfl ?_
        refine j_aload0 44 dX12_unit_43 rfl ?_
        refine j_sipush 47 (v := 10000) dX12_unit_44 rfl rfl ?_
        refine j_iload2 48 dX12_unit_47 rfl ?_
        refine j_iadd 49 dX12_unit_48 rfl ?_
        refine j_vi1w 52 dX12_unit_49 rfl rfl cl_X12_84 rfl rfl (r_lay _ m0 o (avF s) (10000 + nmF 1 (sgF t n s.1)) (RR_av h ok) (fun _ => show s.2.1.length < 60 by omega) (show s.1 + 1 < 2 ^ 31 by omega)) (fun m49 q49 => ?_)
        refine j_vret dX12_unit_52 rfl ?_
        exact ⟨rfl, q49⟩
      · have h1 : RR o m0 m (s.1, s.2.1, true) := by rw [← ok]; exact h
        by_cases n1 : dgP (sgF t n s.1)
        · have e : ptF t n 1 op fb fl s = nuF t n s := by unfold ptF; rw [if_pos n1]
          have dl := dg_le t n 4 s.1 0 hp
          rw [e]
          have tl : ∀ m' i', 0 ≤ i' → i' ≤ 4 → (4 ≠ 0 → dgP (sgF t n s.1) → 0 < i') → (¬ dgP (sgF t n s.1) → i' = 0) → RR o m0 m' ((dgF t n 4 s.1 0).1, s.2.1, true) → J l g (E + 7) mX12_unit 110 [some (rf g 68), some (.int (sgF t n s.1)), some (.int (nmF 1 (sgF t n s.1))), some (.int (nI (dgF t n 4 s.1 0).2)), some (.int (nI i'))] [] m' (RS none (fun m' => RR o m0 m' (nuF t n s))) := by
            intro m' i' _ i4 i1 _ hr
            refine j_iload4 112 dX12_unit_110 rfl ?_
            refine j_if_ne 119 115 dX12_unit_112 rfl rfl (fun h112 => ?_) (fun h112 => absurd h112 (nI_ne0 (i1 (by decide) n1) (by omega)))
            refine j_aload0 120 dX12_unit_119 rfl ?_
            refine j_iload3 121 dX12_unit_120 rfl ?_
            refine j_vi1w 124 dX12_unit_121 rfl rfl cl_X12_84 rfl rfl (r_lay m' m0 o ((dgF t n 4 s.1 0).1, s.2.1, true) _ hr (fun _ => show s.2.1.length < 60 by omega) (show (dgF t n 4 s.1 0).1 < 2 ^ 31 by omega)) (fun m121 q121 => ?_)
            refine j_vret dX12_unit_124 rfl ?_
            exact ⟨rfl, by unfold nuF; rw [ok]; exact q121⟩
          refine j_aload0 1 dX12_unit_0 rfl ?_
          refine j_vi0f 4 dX12_unit_1 rfl rfl cl_X12_66 rfl rfl (r_here m m0 o s t n 1 hx h hp) ?_
          refine j_top eh ?_
          refine j_istore1 5 dX12_unit_4 rfl rfl rfl ?_
          refine j_iload1 6 dX12_unit_5 rfl ?_
          refine j_bipush 8 (v := 33) dX12_unit_6 rfl rfl ?_
          refine j_cmp_eq 17 11 dX12_unit_8 rfl rfl (fun h8 => absurd h8 c33) (fun h8 => ?_)
          refine j_iload1 12 dX12_unit_11 rfl ?_
          refine j_bipush 14 (v := 40) dX12_unit_12 rfl rfl ?_
          refine j_cmp_ne 23 17 dX12_unit_14 rfl rfl (fun h14 => ?_) (fun h14 => absurd h14 c40)
          refine j_aload0 24 dX12_unit_23 rfl ?_
          refine j_iload1 25 dX12_unit_24 rfl ?_
          refine j_vi1f 28 dX12_unit_25 rfl rfl cl_X12_112 rfl rfl (r_name_1 m _ h10) ?_
          refine j_istore2 29 dX12_unit_28 rfl rfl rfl ?_
          refine j_iload2 30 dX12_unit_29 rfl ?_
          refine j_if_lt 53 33 dX12_unit_30 rfl rfl (fun h30 => ?_) (fun h30 => absurd (Int32.not_le.mp n2) h30)
          refine j_iconst 54 (v := 0) dX12_unit_53 rfl rfl ?_
          refine j_istore3 55 dX12_unit_54 rfl rfl rfl ?_
          refine j_iconst 56 (v := 0) dX12_unit_55 rfl rfl ?_
          refine j_istore4 58 dX12_unit_56 rfl rfl rfl ?_
          exact lp_dig E m0 t n 1 o hx s.2.1 _ _ 4 0 m s.1 0 rfl h1 hp tl
        · have e : ptF t n 1 op fb fl s = flF s := by unfold ptF; rw [if_neg n1, if_neg n2, if_neg (fun z => c33 z.1), if_neg (fun z => c40 z.1)]
          have ed : dgF t n 4 s.1 0 = (s.1, 0) := if_neg n1
          rw [e]
          have tl : ∀ m' i', 0 ≤ i' → i' ≤ 4 → (4 ≠ 0 → dgP (sgF t n s.1) → 0 < i') → (¬ dgP (sgF t n s.1) → i' = 0) → RR o m0 m' ((dgF t n 4 s.1 0).1, s.2.1, true) → J l g (E + 7) mX12_unit 110 [some (rf g 68), some (.int (sgF t n s.1)), some (.int (nmF 1 (sgF t n s.1))), some (.int (nI (dgF t n 4 s.1 0).2)), some (.int (nI i'))] [] m' (RS none (fun m' => RR o m0 m' (flF s))) := by
            intro m' i' _ i4 _ i1 hr
            have i0 := i1 n1
            subst i0
            rw [ed] at hr
            refine j_iload4 112 dX12_unit_110 rfl ?_
            refine j_if_ne 119 115 dX12_unit_112 rfl rfl (fun h112 => absurd h112 (fun q => q rfl)) (fun h112 => ?_)
            refine j_aload0 116 dX12_unit_115 rfl ?_
            refine j_vi0w 119 dX12_unit_116 rfl rfl cl_X12_103 rfl rfl (r_wrong m' m0 o (s.1, s.2.1, true) hr (show s.1 < 2 ^ 31 by omega)) (fun m116 q116 => ?_)
            refine j_aload0 120 dX12_unit_119 rfl ?_
            refine j_iload3 121 dX12_unit_120 rfl ?_
            refine j_vi1w 124 dX12_unit_121 rfl rfl cl_X12_84 rfl rfl (r_lay m116 m0 o (flF s) _ q116 (fun z => by cases z) (show s.1 < 2 ^ 31 by omega)) (fun m121 q121 => ?_)
            refine j_vret dX12_unit_124 rfl ?_
            exact ⟨rfl, q121⟩
          refine j_aload0 1 dX12_unit_0 rfl ?_
          refine j_vi0f 4 dX12_unit_1 rfl rfl cl_X12_66 rfl rfl (r_here m m0 o s t n 1 hx h hp) ?_
          refine j_top eh ?_
          refine j_istore1 5 dX12_unit_4 rfl rfl rfl ?_
          refine j_iload1 6 dX12_unit_5 rfl ?_
          refine j_bipush 8 (v := 33) dX12_unit_6 rfl rfl ?_
          refine j_cmp_eq 17 11 dX12_unit_8 rfl rfl (fun h8 => absurd h8 c33) (fun h8 => ?_)
          refine j_iload1 12 dX12_unit_11 rfl ?_
          refine j_bipush 14 (v := 40) dX12_unit_12 rfl rfl ?_
          refine j_cmp_ne 23 17 dX12_unit_14 rfl rfl (fun h14 => ?_) (fun h14 => absurd h14 c40)
          refine j_aload0 24 dX12_unit_23 rfl ?_
          refine j_iload1 25 dX12_unit_24 rfl ?_
          refine j_vi1f 28 dX12_unit_25 rfl rfl cl_X12_112 rfl rfl (r_name_1 m _ h10) ?_
          refine j_istore2 29 dX12_unit_28 rfl rfl rfl ?_
          refine j_iload2 30 dX12_unit_29 rfl ?_
          refine j_if_lt 53 33 dX12_unit_30 rfl rfl (fun h30 => ?_) (fun h30 => absurd (Int32.not_le.mp n2) h30)
          refine j_iconst 54 (v := 0) dX12_unit_53 rfl rfl ?_
          refine j_istore3 55 dX12_unit_54 rfl rfl rfl ?_
          refine j_iconst 56 (v := 0) dX12_unit_55 rfl rfl ?_
          refine j_istore4 58 dX12_unit_56 rfl rfl rfl ?_
          exact lp_dig E m0 t n 1 o hx s.2.1 _ _ 4 0 m s.1 0 rfl h1 hp tl
end O36
