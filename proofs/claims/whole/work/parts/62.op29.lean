/-! as: the static row ABOVE -/
def abv (j : Nat) : Int32 := if j = 0 then -1 else if j ≤ 3 then 0 else nI (j - 3)
theorem gs_324 : Cond.fieldLink RX11 324 "DustSills" "ABOVE" "[I" ∈ lw_gd := gd (List.mem_of_getElem? (i := 523) (by decide +kernel)) rfl
theorem gs_lay : Cond.laysStatic "DustSills" "ABOVE" "[I" ∈ lw_tbl := List.mem_of_getElem? (i := 524) (by decide +kernel)
theorem gs_ini : Cond.initialized "DustSills" ∈ lw_tbl := List.mem_of_getElem? (i := 63) (by decide +kernel)
theorem ab_Z {g : Gv} (h : G0 g) : va_Z "DustSills" "ABOVE" "[I" (.ref (ga g 102)) (Fz g) g.1 g.1.heap := by
  obtain ⟨-, -, -, hw, -, -, -, hs⟩ := h
  exact va_Zof (hw _ gs_lay) (hw _ gs_ini) hs (fun q hq => Nat.not_le.mpr hq)
theorem ab_T {g : Gv} (h : G0 g) : va_T .int (ga g 102) 7 (fun j => .int (abv j)) (Fz g) g.1 g.1.heap := by
  obtain ⟨-, -, -, hw, ⟨a, ha⟩, -, -, hs⟩ := h
  have hf := flat_of_before _ ha
  have hel : ∀ j : Nat, j < 7 → (Term.elem (.static "DustSills" "ABOVE" "[I") (.int (Int32.ofNat j))).eval a g.1 none [] g.1 = some (.int (abv j)) := by
    intro j hj
    rcases (show j = 0 ∨ j = 1 ∨ j = 2 ∨ j = 3 ∨ j = 4 ∨ j = 5 ∨ j = 6 by omega) with rfl | rfl | rfl | rfl | rfl | rfl | rfl <;> exact va_eqt (hf _ (by decide +kernel))
  obtain ⟨t, h1, h2⟩ := va_Tof (args := a) (s := g.1) (tm := .static "DustSills" "ABOVE" "[I") (ty := .int) (N := 7) (f := fun j => .int (abv j)) (A := Fz g) (by decide) (hf _ (by decide +kernel)) (va_eqt (hf _ (by decide +kernel))) hel (fun q hq => Nat.not_le.mpr hq)
  have e : (some (.ref t) : Option Value) = some (.ref (ga g 102)) := h1.symm.trans hs
  have e : t = ga g 102 := by simpa using e
  rw [← e]
  exact h2
section O29
variable {l : Launch} {g : Gv}
theorem j_getsA {d : Nat} {y : MD} {pc : Nat} {ls : List (Option Value)} {st : List Value} {m : Mem} {Q : Option Value → Mem → Prop} (pc' : Nat) {i : Nat} (hdg : decode y.2.1 pc = .ok (.getstatic i, 3)) (hp : pc + 3 = pc') (hc : Cond.fieldLink y.1.cls i "DustSills" "ABOVE" "[I" ∈ lw_gd) (kk : J l g d y pc' ls (rf g 102 :: st) m Q) : J l g d y pc ls st m Q := by
  intro p e s mi args below meth c H locs la C R S L
  subst hp
  have hts := C.2.2.2.2.2.1
  have Z := (ab_Z C.2.2.2.2.2.2.2.1).moved C.2.2.2.2.2.2.2.2
  obtain ⟨cf, kf, fi, f, a, cell, h1, h2, h3, h4, h5, h6, h7, h8⟩ := Z
  have ha : H[a]? = some cell := by rw [R.2.2 a (Array.getElem?_eq_some_iff.mp h5).1]; exact h5
  exact W.gets C.1 C.2.1 C.2.2.2.2.1 (hts _ hc) h1 h2 h3 h4 ha (fun e => by rw [e] at h6; cases h6) h7 rfl hdg (kk p e s mi args below meth c H locs la C R S L)
theorem j_tald {d : Nat} {y : MD} {pc : Nat} {ls : List (Option Value)} {st : List Value} {m : Mem} {Q : Option Value → Mem → Prop} (pc' : Nat) (i : Nat) {x : Int32} (hx : x = nI i) (hi : i < 7) (hdg : decode y.2.1 pc = .ok (.iaload, 1)) (hp : pc + 1 = pc') (kk : J l g d y pc' ls (.int (abv i) :: st) m Q) : J l g d y pc ls (.int x :: rf g 102 :: st) m Q := by
  intro p e s mi args below meth c H locs la C R S L
  subst hp
  subst hx
  obtain ⟨cell, h1, h2, h3, h4, h5, h6, h7⟩ := (ab_T C.2.2.2.2.2.2.2.1).moved C.2.2.2.2.2.2.2.2
  have ec : (nI i).toNatClampNeg = i := nI_clamp (by omega)
  have ha : H[ga g 102]? = some cell := by rw [R.2.2 _ (Array.getElem?_eq_some_iff.mp h1).1]; exact h1
  exact W.iald (v := .int (abv i)) C.1 C.2.1 ha h2 h3 (fun q => q.elim (fun z => nI_pos (by omega) z) (fun z => by rw [ec] at z; omega)) (by rw [ec]; exact h6 i hi) rfl rfl hdg (kk p e s mi args below meth c H locs la C R S L)
set_option maxRecDepth 100000 in
theorem un_m1 {Q : Option Value → Mem → Prop} (m : Mem) (k0 x : Int32) (s : Nat) (hs : s < 7) (hq : Q (some (.int 0)) m) : J l g 1 mX11_isOrIsUnder 4 [some (.int k0), some (.int x), some (.int (-1)), some (.int (nI s))] [] m Q := by
  refine j_iload3 5 dX11_isOrIsUnder_4 rfl ?_
  refine j_bipush 7 (v := 7) dX11_isOrIsUnder_5 rfl rfl ?_
  refine j_cmp_ge 39 10 dX11_isOrIsUnder_7 rfl rfl (fun h7 => absurd h7 (nI_ge (a := s) (b := 7) hs (by decide))) (fun h7 => ?_)
  refine j_iload2 11 dX11_isOrIsUnder_10 rfl ?_
  refine j_iconst 12 (v := 0) dX11_isOrIsUnder_11 rfl rfl ?_
  refine j_bipush 14 (v := 6) dX11_isOrIsUnder_12 rfl rfl ?_
  refine j_st3f 17 dX11_isOrIsUnder_14 rfl rfl cl_X11_86 rfl (c_within m (-1) 0 6) ?_
  refine j_if_eq_bz 39 20 dX11_isOrIsUnder_17 rfl rfl (fun h17 => ?_) (fun h17 => absurd h17 (by decide))
  refine j_iconst 40 (v := 0) dX11_isOrIsUnder_39 rfl rfl ?_
  refine j_zret (by first | exact bz_01 | exact Or.inl rfl | exact Or.inr rfl | assumption) dX11_isOrIsUnder_40 rfl ?_
  exact hq
set_option maxRecDepth 100000 in
theorem un_a {Q : Option Value → Mem → Prop} (m : Mem) (k0 x : Int32) (a s : Nat) (ha : a < 7) (hs : s < 7) (k1 : x = nI a → Q (some (.int 1)) m) (kn : ¬ x = nI a → J l g 1 mX11_isOrIsUnder 4 [some (.int k0), some (.int x), some (.int (abv a)), some (.int (nI (s + 1)))] [] m Q) : J l g 1 mX11_isOrIsUnder 4 [some (.int k0), some (.int x), some (.int (nI a)), some (.int (nI s))] [] m Q := by
  have e2 : nI s + 1 = nI (s + 1) := nI_1 s
  refine j_iload3 5 dX11_isOrIsUnder_4 rfl ?_
  refine j_bipush 7 (v := 7) dX11_isOrIsUnder_5 rfl rfl ?_
  refine j_cmp_ge 39 10 dX11_isOrIsUnder_7 rfl rfl (fun h7 => absurd h7 (nI_ge (a := s) (b := 7) hs (by decide))) (fun h7 => ?_)
  refine j_iload2 11 dX11_isOrIsUnder_10 rfl ?_
  refine j_iconst 12 (v := 0) dX11_isOrIsUnder_11 rfl rfl ?_
  refine j_bipush 14 (v := 6) dX11_isOrIsUnder_12 rfl rfl ?_
  refine j_st3f 17 dX11_isOrIsUnder_14 rfl rfl cl_X11_86 rfl (c_within m (nI a) 0 6) ?_
  refine j_if_eq_bz 39 20 dX11_isOrIsUnder_17 rfl rfl (fun h17 => absurd ((rngN 6 (by decide)).mpr ⟨a, by omega, rfl⟩) h17) (fun h17 => ?_)
  refine j_iload2 21 dX11_isOrIsUnder_20 rfl ?_
  refine j_iload1 22 dX11_isOrIsUnder_21 rfl ?_
  refine j_cmp_ne 27 25 dX11_isOrIsUnder_22 rfl rfl (fun h22 => ?_) (fun h22 => ?_)
  · refine j_getsA 30 dX11_isOrIsUnder_27 rfl gs_324 ?_
    refine j_iload2 31 dX11_isOrIsUnder_30 rfl ?_
    refine j_tald 32 a rfl ha dX11_isOrIsUnder_31 rfl ?_
    refine j_istore2 33 dX11_isOrIsUnder_32 rfl rfl rfl ?_
    refine j_iinc3 36 (1) dX11_isOrIsUnder_33 rfl rfl rfl rfl ?_
    refine j_goto 4 dX11_isOrIsUnder_36 rfl ?_
    rw [e2]
    exact kn (fun q => h22 q.symm)
  · refine j_iconst 26 (v := 1) dX11_isOrIsUnder_25 rfl rfl ?_
    refine j_zret (by first | exact bz_01 | exact Or.inl rfl | exact Or.inr rfl | assumption) dX11_isOrIsUnder_26 rfl ?_
    exact k1 h22.symm
abbrev und (a : Nat) (x : Int32) : Prop := x = nI a ∨ (4 ≤ a ∧ x = nI (a - 3)) ∨ x = nI 0
set_option maxRecDepth 100000 in
theorem c_under (m : Mem) (a : Nat) (x : Int32) (ha : a < 7) : JM l g 1 mX11_isOrIsUnder [.int (nI a), .int x] m (RF (some (.int (bz (und a x)))) m) := by
  refine JM_of (ls := [some (.int (nI a)), some (.int x), none, none]) pn_X11 rfl rfl ?_
  have key : J l g 1 mX11_isOrIsUnder 4 [some (.int (nI a)), some (.int x), some (.int (nI a)), some (.int (nI 0))] [] m (RF (some (.int (bz (und a x)))) m) := by
    rcases (show a = 0 ∨ (1 ≤ a ∧ a ≤ 3) ∨ (4 ≤ a ∧ a < 7) by omega) with rfl | h | h
    · exact un_a m _ x 0 0 (by decide) (by decide) (fun q => rf_t (Or.inl q)) (fun q => un_m1 m _ x 1 (by decide) (rf_f (fun z => z.elim q (fun z => z.elim (fun y => absurd y.1 (by decide)) q))))
    · refine un_a m _ x a 0 ha (by decide) (fun q => rf_t (Or.inl q)) (fun q => ?_)
      rw [show abv a = nI 0 by unfold abv; rw [if_neg (by omega), if_pos (by omega)]; rfl]
      exact un_a m _ x 0 1 (by decide) (by decide) (fun q2 => rf_t (Or.inr (Or.inr q2))) (fun q2 => un_m1 m _ x 2 (by decide) (rf_f (fun z => z.elim q (fun z => z.elim (fun y => absurd y.1 (by omega)) q2))))
    · refine un_a m _ x a 0 ha (by decide) (fun q => rf_t (Or.inl q)) (fun q => ?_)
      rw [show abv a = nI (a - 3) by unfold abv; rw [if_neg (by omega), if_neg (by omega)]]
      refine un_a m _ x (a - 3) 1 (by omega) (by decide) (fun q2 => rf_t (Or.inr (Or.inl ⟨h.1, q2⟩))) (fun q2 => ?_)
      rw [show abv (a - 3) = nI 0 by unfold abv; rw [if_neg (by omega), if_pos (by omega)]; rfl]
      exact un_a m _ x 0 2 (by decide) (by decide) (fun q3 => rf_t (Or.inr (Or.inr q3))) (fun q3 => un_m1 m _ x 3 (by decide) (rf_f (fun z => z.elim q (fun z => z.elim (fun y => q2 y.2) q3))))
  refine j_iload0 1 dX11_isOrIsUnder_0 rfl ?_
  refine j_istore2 2 dX11_isOrIsUnder_1 rfl rfl rfl ?_
  refine j_iconst 3 (v := 0) dX11_isOrIsUnder_2 rfl rfl ?_
  refine j_istore3 4 dX11_isOrIsUnder_3 rfl rfl rfl ?_
  exact key
theorem abo {a : Nat} (ha : a < 7) : (if nI a ≤ 3 then (0 : Int32) else nI a - 3) = if a ≤ 3 then nI 0 else nI (a - 3) := by
  by_cases q : a ≤ 3
  · rw [if_pos (show nI a ≤ 3 from nI_le (a := a) (b := 3) q (by decide)), if_pos q]; rfl
  · rw [if_neg (show ¬ nI a ≤ 3 from nI_ge (a := 3) (b := a) (by omega) (by omega)), if_neg q]; exact pk_sub (b := 3) (by omega)
theorem und_m {a : Nat} {x : Int32} (ha : a < 7) : und a x ↔ (x = 0 ∨ nI a = x ∨ (if nI a ≤ 3 then (0 : Int32) else nI a - 3) = x) := by
  rw [abo ha]
  constructor
  · rintro (q | ⟨q, z⟩ | q)
    · exact Or.inr (Or.inl q.symm)
    · exact Or.inr (Or.inr (by rw [if_neg (by omega)]; exact z.symm))
    · exact Or.inl q
  · rintro (q | q | q)
    · exact Or.inr (Or.inr q)
    · exact Or.inl q.symm
    · by_cases z : a ≤ 3
      · rw [if_pos z] at q; exact Or.inr (Or.inr q.symm)
      · rw [if_neg z] at q; exact Or.inr (Or.inl ⟨by omega, q.symm⟩)
set_option maxRecDepth 100000 in
theorem e_as (m : Mem) (h x : Int32) (c : ¬ ((0 ≤ h ∧ h < m 9 9 ∧ h < 8) ∧ (0 ≤ x ∧ x ≤ 6))) : JM l g 2 mX11_as [rf g 0, .int h, .int x] m (RF (some (.int (-1000000001))) (errC 1 m)) := by
  refine JM_of (ls := [some (rf g 0), some (.int h), some (.int x)]) pn_X11 rfl rfl ?_
  refine j_aload0 1 dX11_as_0 rfl ?_
  refine j_iload1 2 dX11_as_1 rfl ?_
  refine j_vi1f 5 dX11_as_2 rfl rfl cl_X11_124 rfl rfl (c_isHeir m h) ?_
  refine j_if_eq_bz 18 8 dX11_as_5 rfl rfl (fun h5 => ?_) (fun h5 => ?_)
  · refine j_aload0 19 dX11_as_18 rfl ?_
    refine j_ldc 21 dX11_as_19 rfl kc_X11_81 ?_
    refine j_vi1f 24 dX11_as_21 rfl rfl cl_X11_82 rfl rfl (c_err1 m) ?_
    refine j_iret dX11_as_24 rfl ?_
    exact ⟨rfl, rfl⟩
  · refine j_iload2 9 dX11_as_8 rfl ?_
    refine j_iconst 10 (v := 0) dX11_as_9 rfl rfl ?_
    refine j_bipush 12 (v := 6) dX11_as_10 rfl rfl ?_
    refine j_st3f 15 dX11_as_12 rfl rfl cl_X11_86 rfl (c_within m x 0 6) ?_
    refine j_if_ne_bz 25 18 dX11_as_15 rfl rfl (fun h15 => ?_) (fun h15 => ?_)
    · exact absurd (And.intro h5 h15) c
    · refine j_aload0 19 dX11_as_18 rfl ?_
      refine j_ldc 21 dX11_as_19 rfl kc_X11_81 ?_
      refine j_vi1f 24 dX11_as_21 rfl rfl cl_X11_82 rfl rfl (c_err1 m) ?_
      refine j_iret dX11_as_24 rfl ?_
      exact ⟨rfl, rfl⟩
set_option maxRecDepth 100000 in
theorem f_as (m : Mem) (h x : Int32) (c : ¬ ((0 ≤ h ∧ h ≤ m 69 0 - 1) ∧ (0 ≤ x ∧ x ≤ 6))) : JM l g 2 mX12_as [rf g 68, .int h, .int x] m (RF (some (.int (-1000000001))) (errM 1 m)) := by
  refine JM_of (ls := [some (rf g 68), some (.int h), some (.int x), none]) pn_X12 rfl rfl ?_
  refine j_aload0 1 dX12_as_0 rfl ?_
  refine j_iload1 2 dX12_as_1 rfl ?_
  refine j_vi1f 5 dX12_as_2 rfl rfl cl_X12_199 rfl rfl (c_misHeir m h) ?_
  refine j_if_eq_bz 20 8 dX12_as_5 rfl rfl (fun h5 => ?_) (fun h5 => ?_)
  · refine j_aload0 21 dX12_as_20 rfl ?_
    refine j_iconst 22 (v := 1) dX12_as_21 rfl rfl ?_
    refine j_vi1f 25 dX12_as_22 rfl rfl cl_X12_126 rfl rfl (c_finds1 m) ?_
    refine j_iret dX12_as_25 rfl ?_
    exact ⟨rfl, rfl⟩
  · refine j_iload2 9 dX12_as_8 rfl ?_
    refine j_i2l 10 dX12_as_9 rfl ?_
    refine j_lconst 11 (v := 0) dX12_as_10 rfl rfl ?_
    refine j_ldc2 14 dX12_as_11 rfl kl_X12_207 ?_
    refine j_st3f 17 dX12_as_14 rfl rfl cl_X12_47 rfl (c_in m x 0 6) ?_
    refine j_if_ne_bz 26 20 dX12_as_17 rfl rfl (fun h17 => ?_) (fun h17 => ?_)
    · exact absurd (And.intro h5 h17) c
    · refine j_aload0 21 dX12_as_20 rfl ?_
      refine j_iconst 22 (v := 1) dX12_as_21 rfl rfl ?_
      refine j_vi1f 25 dX12_as_22 rfl rfl cl_X12_126 rfl rfl (c_finds1 m) ?_
      refine j_iret dX12_as_25 rfl ?_
      exact ⟨rfl, rfl⟩
set_option maxRecDepth 100000 in
theorem o_as {Q : Option Value → Mem → Prop} (m : Mem) (h a : Nat) (x : Int32) (hh : h < 8) (ha : a < 7) (ek : m 12 h = nI a) (h1 : 0 ≤ nI h ∧ nI h < m 9 9 ∧ nI h < 8) (h2 : 0 ≤ x ∧ x ≤ 6) (k1 : und a x → Q (some (.int (m 13 h))) m) (k0 : ¬ und a x → Q (some (.int (-1000000005))) (errC 5 m)) : JM l g 2 mX11_as [rf g 0, .int (nI h), .int x] m (Q) := by
  refine JM_of (ls := [some (rf g 0), some (.int (nI h)), some (.int x)]) pn_X11 rfl rfl ?_
  refine j_aload0 1 dX11_as_0 rfl ?_
  refine j_iload1 2 dX11_as_1 rfl ?_
  refine j_vi1f 5 dX11_as_2 rfl rfl cl_X11_124 rfl rfl (c_isHeir m _) ?_
  refine j_if_eq_bz 18 8 dX11_as_5 rfl rfl (fun h5 => absurd h1 h5) (fun h5 => ?_)
  refine j_iload2 9 dX11_as_8 rfl ?_
  refine j_iconst 10 (v := 0) dX11_as_9 rfl rfl ?_
  refine j_bipush 12 (v := 6) dX11_as_10 rfl rfl ?_
  refine j_st3f 15 dX11_as_12 rfl rfl cl_X11_86 rfl (c_within m x 0 6) ?_
  refine j_if_ne_bz 25 18 dX11_as_15 rfl rfl (fun h15 => ?_) (fun h15 => absurd h2 h15)
  refine j_aload0 26 dX11_as_25 rfl ?_
  refine j_getR 29 dX11_as_26 rfl fl_X11_35 rfl rfl ?_
  refine j_getR 32 dX11_as_29 rfl fl_X11_127 rfl rfl ?_
  refine j_iload1 33 dX11_as_32 rfl ?_
  refine j_iald 34 _ rfl hh dX11_as_33 rfl rfl ?_
  refine j_top ek ?_
  refine j_iload2 35 dX11_as_34 rfl ?_
  refine j_st2f 38 dX11_as_35 rfl rfl cl_X11_170 rfl (c_under m a x ha) ?_
  refine j_if_eq_bz 53 41 dX11_as_38 rfl rfl (fun h38 => ?_) (fun h38 => ?_)
  · refine j_aload0 54 dX11_as_53 rfl ?_
    refine j_ldc 56 dX11_as_54 rfl kc_X11_173 ?_
    refine j_vi1f 59 dX11_as_56 rfl rfl cl_X11_82 rfl rfl (c_err5 m) ?_
    refine j_iret dX11_as_59 rfl ?_
    first | exact k1 h38 | exact k0 h38
  · refine j_aload0 42 dX11_as_41 rfl ?_
    refine j_getR 45 dX11_as_42 rfl fl_X11_35 rfl rfl ?_
    refine j_getR 48 dX11_as_45 rfl fl_X11_130 rfl rfl ?_
    refine j_iload1 49 dX11_as_48 rfl ?_
    refine j_iald 50 _ rfl hh dX11_as_49 rfl rfl ?_
    refine j_goto 59 dX11_as_50 rfl ?_
    refine j_iret dX11_as_59 rfl ?_
    first | exact k1 h38 | exact k0 h38
set_option maxRecDepth 100000 in
theorem p_as {Q : Option Value → Mem → Prop} (m : Mem) (h a : Nat) (x : Int32) (hh : h < 8) (ha : a < 7) (ek : hf (m 69) h 0 = nI a) (h1 : 0 ≤ nI h ∧ nI h ≤ m 69 0 - 1) (h2 : 0 ≤ x ∧ x ≤ 6) (k1 : und a x → Q (some (.int (hf (m 69) h 1))) m) (k0 : ¬ und a x → Q (some (.int (-1000000005))) (errM 5 m)) : JM l g 2 mX12_as [rf g 68, .int (nI h), .int x] m (Q) := by
  refine JM_of (ls := [some (rf g 68), some (.int (nI h)), some (.int x), none]) pn_X12 rfl rfl ?_
  refine j_aload0 1 dX12_as_0 rfl ?_
  refine j_iload1 2 dX12_as_1 rfl ?_
  refine j_vi1f 5 dX12_as_2 rfl rfl cl_X12_199 rfl rfl (c_misHeir m _) ?_
  refine j_if_eq_bz 20 8 dX12_as_5 rfl rfl (fun h5 => absurd h1 h5) (fun h5 => ?_)
  refine j_iload2 9 dX12_as_8 rfl ?_
  refine j_i2l 10 dX12_as_9 rfl ?_
  refine j_lconst 11 (v := 0) dX12_as_10 rfl rfl ?_
  refine j_ldc2 14 dX12_as_11 rfl kl_X12_207 ?_
  refine j_st3f 17 dX12_as_14 rfl rfl cl_X12_47 rfl (c_in m x 0 6) ?_
  refine j_if_ne_bz 26 20 dX12_as_17 rfl rfl (fun h17 => ?_) (fun h17 => absurd h2 h17)
  refine j_aload0 27 dX12_as_26 rfl ?_
  refine j_iload1 28 dX12_as_27 rfl ?_
  refine j_iconst 29 (v := nI 0) dX12_as_28 rfl rfl ?_
  refine j_vi2f 32 dX12_as_29 rfl rfl cl_X12_146 rfl rfl (c_of m h 0 hh (by decide)) ?_
  refine j_top ek ?_
  refine j_istore3 33 dX12_as_32 rfl rfl rfl ?_
  refine j_iload2 34 dX12_as_33 rfl ?_
  refine j_if_eq 50 37 dX12_as_34 rfl rfl (fun h34 => ?_) (fun h34 => ?_)
  · refine j_aload0 51 dX12_as_50 rfl ?_
    refine j_iload1 52 dX12_as_51 rfl ?_
    refine j_iconst 53 (v := nI 1) dX12_as_52 rfl rfl ?_
    refine j_vi2f 56 dX12_as_53 rfl rfl cl_X12_146 rfl rfl (c_of m h 1 hh (by decide)) ?_
    refine j_goto 64 dX12_as_56 rfl ?_
    refine j_iret dX12_as_64 rfl ?_
    first | exact k1 ((und_m ha).mpr (Or.inr (Or.inr h47))) | exact k0 (fun q => ((und_m ha).mp q).elim h34 (fun z => z.elim h39 h47)) | exact k1 ((und_m ha).mpr (Or.inr (Or.inl h39))) | exact k1 ((und_m ha).mpr (Or.inl h34))
  · refine j_iload3 38 dX12_as_37 rfl ?_
    refine j_iload2 39 dX12_as_38 rfl ?_
    refine j_cmp_eq 50 42 dX12_as_39 rfl rfl (fun h39 => ?_) (fun h39 => ?_)
    · refine j_aload0 51 dX12_as_50 rfl ?_
      refine j_iload1 52 dX12_as_51 rfl ?_
      refine j_iconst 53 (v := nI 1) dX12_as_52 rfl rfl ?_
      refine j_vi2f 56 dX12_as_53 rfl rfl cl_X12_146 rfl rfl (c_of m h 1 hh (by decide)) ?_
      refine j_goto 64 dX12_as_56 rfl ?_
      refine j_iret dX12_as_64 rfl ?_
      first | exact k1 ((und_m ha).mpr (Or.inr (Or.inr h47))) | exact k0 (fun q => ((und_m ha).mp q).elim h34 (fun z => z.elim h39 h47)) | exact k1 ((und_m ha).mpr (Or.inr (Or.inl h39))) | exact k1 ((und_m ha).mpr (Or.inl h34))
    · refine j_iload3 43 dX12_as_42 rfl ?_
      refine j_st1f 46 dX12_as_43 rfl rfl cl_X12_209 rfl (c_above m (nI a)) ?_
      refine j_iload2 47 dX12_as_46 rfl ?_
      refine j_cmp_ne 59 50 dX12_as_47 rfl rfl (fun h47 => ?_) (fun h47 => ?_)
      · refine j_aload0 60 dX12_as_59 rfl ?_
        refine j_iconst 61 (v := 5) dX12_as_60 rfl rfl ?_
        refine j_vi1f 64 dX12_as_61 rfl rfl cl_X12_126 rfl rfl (c_finds5 m) ?_
        refine j_iret dX12_as_64 rfl ?_
        first | exact k1 ((und_m ha).mpr (Or.inr (Or.inr h47))) | exact k0 (fun q => ((und_m ha).mp q).elim h34 (fun z => z.elim h39 h47)) | exact k1 ((und_m ha).mpr (Or.inr (Or.inl h39))) | exact k1 ((und_m ha).mpr (Or.inl h34))
      · refine j_aload0 51 dX12_as_50 rfl ?_
        refine j_iload1 52 dX12_as_51 rfl ?_
        refine j_iconst 53 (v := nI 1) dX12_as_52 rfl rfl ?_
        refine j_vi2f 56 dX12_as_53 rfl rfl cl_X12_146 rfl rfl (c_of m h 1 hh (by decide)) ?_
        refine j_goto 64 dX12_as_56 rfl ?_
        refine j_iret dX12_as_64 rfl ?_
        first | exact k1 ((und_m ha).mpr (Or.inr (Or.inr h47))) | exact k0 (fun q => ((und_m ha).mp q).elim h34 (fun z => z.elim h39 h47)) | exact k1 ((und_m ha).mpr (Or.inr (Or.inl h39))) | exact k1 ((und_m ha).mpr (Or.inl h34))
theorem op_as {m : Mem} (I : INV m) (b x : Int32) : OPr l g mX11_as mX12_as [.int b, .int x] m := by
  obtain ⟨⟨wf, hd, hT, hP⟩, -⟩ := id I
  by_cases c : (0 ≤ b ∧ b < m 69 0 ∧ b < 8) ∧ (0 ≤ x ∧ x ≤ 6)
  · obtain ⟨cb, cx⟩ := c
    obtain ⟨h, hi, rfl⟩ := (isH_c wf).mp cb
    have hM := (isH_m wf).mpr ⟨h, hi, rfl⟩
    have hh : h < 8 := by have := wf.n.1; omega
    obtain ⟨a, ha, ea⟩ := (wf.hw hh).1
    have e12 : m 12 h = nI a := (hT.2.2.2.2.2.2.2 h hh 0 (by decide)).trans ea
    have e13 : m 13 h = hf (m 69) h 1 := hT.2.2.2.2.2.2.2 h hh 1 (by decide)
    by_cases u : und a x
    · refine ⟨2, 2, m 13 h, fun m' => m' = m, by decide, by decide, o_as m h a x hh ha e12 (by rw [hT.1]; exact cb) cx (fun _ => ⟨rfl, rfl⟩) (fun q => absurd u q), fun m' e => ?_⟩
      subst e
      exact p_as m' h a x hh ha ea hM cx (fun _ => ⟨by rw [e13], I⟩) (fun q => absurd u q)
    · exact OPr_err (k := 5) (E := -1000000005) I (by decide) (show 2 < 1000 by decide) (show 2 < 1000 by decide) (o_as m h a x hh ha e12 (by rw [hT.1]; exact cb) cx (fun q => absurd q u) (fun _ => ⟨rfl, rfl⟩)) (p_as (errC 5 m) h a x hh ha (by rw [errC_o (by decide)]; exact ea) (by rw [errC_o (by decide)]; exact hM) cx (fun q => absurd q u) (fun _ => ⟨rfl, rfl⟩))
  · exact OPr_err I (by decide) (by decide) (by decide) (e_as m b x (by rw [hT.1]; exact c)) (f_as _ b x (fun q => c ⟨(isH_c wf).mpr ((isH_m wf).mp (by have := q.1; rw [errC_o (by decide)] at this; exact this)), q.2⟩))
end O29
