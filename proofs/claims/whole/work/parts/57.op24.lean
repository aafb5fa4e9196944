/-! sheet -/
def cB (b : Int32) : Prop := b = 0 ∨ b = 8 ∨ b = 16 ∨ b = 32
abbrev zr1 (m : Mem) (c : Nat) : Nat → Int32 := fun j => if j < 40 then (fun _ => 0) j else m c j
abbrev zr2 (m : Mem) (s : Nat) : Nat → Int32 := fun j => if 40 * s ≤ j ∧ j < 40 * s + 40 then (fun _ => 0) (j - 40 * s) else m 79 j
theorem SH_sheet {m m2 : Mem} {s : Nat} {b n : Int32} (h : ∀ t, t < 4 → SH m t) (hs : s < 4) (hb : cB b) (hn : nb n 41) (e : m2 = upR (up2 (up2 (up2 (up2 (upR m (61 + s) (zr1 m (61 + s))) 65 s b) 66 s n) 77 s b) 78 s n) 79 (zr2 m s)) : ∀ t, t < 4 → SH m2 t := by
  intro t ht
  obtain ⟨a1, a2, a3, a4, a5⟩ := h t ht
  have o : ∀ c, c ≠ 61 + s → c ≠ 65 → c ≠ 66 → c ≠ 77 → c ≠ 78 → c ≠ 79 → m2 c = m c := fun c h1 h2 h3 h4 h5 h6 => by rw [e, upR_n h6, up2_r h5, up2_r h4, up2_r h3, up2_r h2, upR_n h1]
  have e65 : ∀ j, m2 65 j = if j = s then b else m 65 j := fun j => by rw [e, upR_n (by decide), up2_r (by decide), up2_r (by decide), up2_r (by decide), up2_cell, upR_n (by omega)]
  have e66 : ∀ j, m2 66 j = if j = s then n else m 66 j := fun j => by rw [e, upR_n (by decide), up2_r (by decide), up2_r (by decide), up2_cell, up2_r (by decide), upR_n (by omega)]
  have e77 : ∀ j, m2 77 j = if j = s then b else m 77 j := fun j => by rw [e, upR_n (by decide), up2_r (by decide), up2_cell, up2_r (by decide), up2_r (by decide), upR_n (by omega)]
  have e78 : ∀ j, m2 78 j = if j = s then n else m 78 j := fun j => by rw [e, upR_n (by decide), up2_cell, up2_r (by decide), up2_r (by decide), up2_r (by decide), upR_n (by omega)]
  have e79 : m2 79 = zr2 m s := by rw [e, upR_s]
  have es : m2 (61 + s) = zr1 m (61 + s) := by rw [e, upR_n (by omega), up2_r (by omega), up2_r (by omega), up2_r (by omega), up2_r (by omega), upR_s]
  by_cases q : t = s
  · subst q
    refine ⟨by rw [e65, e77, if_pos rfl, if_pos rfl], by rw [e66, e78, if_pos rfl, if_pos rfl], by rw [e77, if_pos rfl]; exact hb, by rw [e78, if_pos rfl]; exact hn, fun i hi => ?_⟩
    rw [es, e79]
    show (if i < 40 then (0 : Int32) else _) = if 40 * t ≤ 40 * t + i ∧ 40 * t + i < 40 * t + 40 then (0 : Int32) else _
    rw [if_pos hi, if_pos (by omega)]
  · refine ⟨by rw [e65, e77, if_neg q, if_neg q]; exact a1, by rw [e66, e78, if_neg q, if_neg q]; exact a2, by rw [e77, if_neg q]; exact a3, by rw [e78, if_neg q]; exact a4, fun i hi => ?_⟩
    rw [o (61 + t) (by omega) (by omega) (by omega) (by omega) (by omega) (by omega), e79]
    show _ = if 40 * s ≤ 40 * t + i ∧ 40 * t + i < 40 * s + 40 then _ else m 79 (40 * t + i)
    rw [if_neg (by omega)]
    exact a5 i hi
section O24
variable {l : Launch} {g : Gv}
set_option maxRecDepth 100000 in
theorem lp_fill_0 {Q : Option Value → Mem → Prop} (m0 : Mem) (kk : Q none (upR m0 61 (fun j => if j < 40 then (fun _ => 0) j else m0 61 j))) : ∀ (k i : Nat), i + k = 40 → J l g 0 mJ7_fill_53178 5 [some (rf g 61), some (.int 0), some (.int (nI i)), some (.int (nI 40))] [] (upR m0 61 (fun j => if j < i then (fun _ => 0) j else m0 61 j)) Q := by
  intro k
  induction k with
  | zero =>
    intro i e
    have e : i = 40 := by omega
    subst e
    refine j_iload2 6 dJ7_fill_53178_5 rfl ?_
    refine j_iload3 7 dJ7_fill_53178_6 rfl ?_
    refine j_cmp_ge 20 10 dJ7_fill_53178_7 rfl rfl (fun h7 => ?_) (fun h7 => absurd (by decide) h7)
    refine j_vret dJ7_fill_53178_20 rfl ?_
    exact kk
  | succ k ih =>
    intro i e
    have e2 : nI i + 1 = nI (i + 1) := nI_1 i
    refine j_iload2 6 dJ7_fill_53178_5 rfl ?_
    refine j_iload3 7 dJ7_fill_53178_6 rfl ?_
    refine j_cmp_ge 20 10 dJ7_fill_53178_7 rfl rfl (fun h7 => absurd h7 (nI_ge (a := i) (b := 40) (by omega) (by decide))) (fun h7 => ?_)
    refine j_aload0 11 dJ7_fill_53178_10 rfl ?_
    refine j_iload2 12 dJ7_fill_53178_11 rfl ?_
    refine j_iload1 13 dJ7_fill_53178_12 rfl ?_
    refine j_iast 14 _ rfl (show i < 40 by omega) dJ7_fill_53178_13 rfl rfl ?_
    refine j_iinc2 17 (1) dJ7_fill_53178_14 rfl rfl rfl rfl ?_
    refine j_goto 5 dJ7_fill_53178_17 rfl ?_
    rw [e2]
    refine j_mem (upR_nx (f := fun _ => 0) (h := m0 61)) ?_
    exact ih (i + 1) (by omega)
set_option maxRecDepth 100000 in
theorem c_fill_0 (m : Mem) : JM l g 0 mJ7_fill_53178 [rf g 61, .int 0] m (RF none (upR m 61 (zr1 m 61))) := by
  refine JM_of (ls := [some (rf g 61), some (.int 0), none, none]) pn_J7 rfl rfl ?_
  refine j_iconst 1 (v := 0) dJ7_fill_53178_0 rfl rfl ?_
  refine j_istore2 2 dJ7_fill_53178_1 rfl rfl rfl ?_
  refine j_aload0 3 dJ7_fill_53178_2 rfl ?_
  refine j_alen 4 dJ7_fill_53178_3 rfl rfl ?_
  refine j_top (z := nI 40) rfl ?_
  refine j_istore3 5 dJ7_fill_53178_4 rfl rfl rfl ?_
  refine j_mem (upR_n0 (c := 61) (f := fun j => if j < 0 then (fun _ => 0) j else m 61 j) (fun j => if_neg (Nat.not_lt_zero j))).symm ?_
  exact lp_fill_0 m ⟨rfl, rfl⟩ 40 0 rfl
set_option maxRecDepth 100000 in
theorem o_sheetZ_0 (m : Mem) (n : Int32) : JM l g 2 mX11_sheet [rf g 0, .int (nI 0), .int 0, .int n] m (RF (some (.int 1)) (up2 (up2 (upR m 61 (zr1 m 61)) 65 0 0) 66 0 0)) := by
  refine JM_of (ls := [some (rf g 0), some (.int (nI 0)), some (.int 0), some (.int n)]) pn_X11 rfl rfl ?_
  refine j_iload1 1 dX11_sheet_0 rfl ?_
  refine j_st1f 4 dX11_sheet_1 rfl rfl cl_X11_230 rfl (c_isSheet m _) ?_
  refine j_if_eq_bz 29 7 dX11_sheet_4 rfl rfl (fun h4 => absurd (by decide) h4) (fun h4 => ?_)
  refine j_iload2 8 dX11_sheet_7 rfl ?_
  refine j_if_eq 36 11 dX11_sheet_8 rfl rfl (fun h8 => ?_) (fun h8 => absurd (by decide) h8)
  refine j_iload2 37 dX11_sheet_36 rfl ?_
  refine j_if_eq 51 40 dX11_sheet_37 rfl rfl (fun h37 => ?_) (fun h37 => absurd (by decide) h37)
  refine j_iload2 52 dX11_sheet_51 rfl ?_
  refine j_if_eq 68 55 dX11_sheet_52 rfl rfl (fun h52 => ?_) (fun h52 => absurd (by decide) h52)
  refine j_aload0 69 dX11_sheet_68 rfl ?_
  refine j_getR 72 dX11_sheet_69 rfl fl_X11_64 rfl rfl ?_
  refine j_iload1 73 dX11_sheet_72 rfl ?_
  refine j_aald 74 0 rfl (by decide) dX11_sheet_73 rfl (by decide) ?_
  refine j_ref (b := 61) (by decide) ?_
  refine j_iconst 75 (v := 0) dX11_sheet_74 rfl rfl ?_
  refine j_st2v 78 dX11_sheet_75 rfl rfl cl_X11_279 rfl (c_fill_0 m) ?_
  refine j_aload0 79 dX11_sheet_78 rfl ?_
  refine j_getR 82 dX11_sheet_79 rfl fl_X11_67 rfl rfl ?_
  refine j_iload1 83 dX11_sheet_82 rfl ?_
  refine j_iload2 84 dX11_sheet_83 rfl ?_
  refine j_iast 85 0 rfl (by decide) dX11_sheet_84 rfl rfl ?_
  refine j_aload0 86 dX11_sheet_85 rfl ?_
  refine j_getR 89 dX11_sheet_86 rfl fl_X11_71 rfl rfl ?_
  refine j_iload1 90 dX11_sheet_89 rfl ?_
  refine j_iload2 91 dX11_sheet_90 rfl ?_
  refine j_if_ne 98 94 dX11_sheet_91 rfl rfl (fun h91 => absurd h91 (fun q => q rfl)) (fun h91 => ?_)
  refine j_iconst 95 (v := 0) dX11_sheet_94 rfl rfl ?_
  refine j_goto 99 dX11_sheet_95 rfl ?_
  refine j_iast 100 0 rfl (by decide) dX11_sheet_99 rfl rfl ?_
  refine j_iconst 101 (v := 1) dX11_sheet_100 rfl rfl ?_
  refine j_iret dX11_sheet_101 rfl ?_
  exact ⟨rfl, rfl⟩
set_option maxRecDepth 100000 in
theorem o_sheetN_0 (m : Mem) (b n : Int32) (hz : ¬ b = 0) (hb : cB b) (h1 : 0 ≤ n) (h2 : n ≤ 40) : JM l g 2 mX11_sheet [rf g 0, .int (nI 0), .int b, .int n] m (RF (some (.int 1)) (up2 (up2 (upR m 61 (zr1 m 61)) 65 0 b) 66 0 n)) := by
  refine JM_of (ls := [some (rf g 0), some (.int (nI 0)), some (.int b), some (.int n)]) pn_X11 rfl rfl ?_
  refine j_iload1 1 dX11_sheet_0 rfl ?_
  refine j_st1f 4 dX11_sheet_1 rfl rfl cl_X11_230 rfl (c_isSheet m _) ?_
  refine j_if_eq_bz 29 7 dX11_sheet_4 rfl rfl (fun h4 => absurd (by decide) h4) (fun h4 => ?_)
  refine j_iload2 8 dX11_sheet_7 rfl ?_
  refine j_if_eq 36 11 dX11_sheet_8 rfl rfl (fun h8 => absurd h8 hz) (fun h8 => ?_)
  refine j_iload2 12 dX11_sheet_11 rfl ?_
  refine j_bipush 14 (v := 8) dX11_sheet_12 rfl rfl ?_
  refine j_cmp_eq 36 17 dX11_sheet_14 rfl rfl (fun h14 => ?_) (fun h14 => ?_)
  · refine j_iload2 37 dX11_sheet_36 rfl ?_
    refine j_if_eq 51 40 dX11_sheet_37 rfl rfl (fun h37 => absurd h37 hz) (fun h37 => ?_)
    refine j_iload3 41 dX11_sheet_40 rfl ?_
    refine j_if_ge 51 44 dX11_sheet_41 rfl rfl (fun h41 => ?_) (fun h41 => absurd h1 h41)
    refine j_iload2 52 dX11_sheet_51 rfl ?_
    refine j_if_eq 68 55 dX11_sheet_52 rfl rfl (fun h52 => absurd h52 hz) (fun h52 => ?_)
    refine j_iload3 56 dX11_sheet_55 rfl ?_
    refine j_bipush 58 (v := 40) dX11_sheet_56 rfl rfl ?_
    refine j_cmp_le 68 61 dX11_sheet_58 rfl rfl (fun h58 => ?_) (fun h58 => absurd h2 h58)
    refine j_aload0 69 dX11_sheet_68 rfl ?_
    refine j_getR 72 dX11_sheet_69 rfl fl_X11_64 rfl rfl ?_
    refine j_iload1 73 dX11_sheet_72 rfl ?_
    refine j_aald 74 0 rfl (by decide) dX11_sheet_73 rfl (by decide) ?_
    refine j_ref (b := 61) (by decide) ?_
    refine j_iconst 75 (v := 0) dX11_sheet_74 rfl rfl ?_
    refine j_st2v 78 dX11_sheet_75 rfl rfl cl_X11_279 rfl (c_fill_0 m) ?_
    refine j_aload0 79 dX11_sheet_78 rfl ?_
    refine j_getR 82 dX11_sheet_79 rfl fl_X11_67 rfl rfl ?_
    refine j_iload1 83 dX11_sheet_82 rfl ?_
    refine j_iload2 84 dX11_sheet_83 rfl ?_
    refine j_iast 85 0 rfl (by decide) dX11_sheet_84 rfl rfl ?_
    refine j_aload0 86 dX11_sheet_85 rfl ?_
    refine j_getR 89 dX11_sheet_86 rfl fl_X11_71 rfl rfl ?_
    refine j_iload1 90 dX11_sheet_89 rfl ?_
    refine j_iload2 91 dX11_sheet_90 rfl ?_
    refine j_if_ne 98 94 dX11_sheet_91 rfl rfl (fun h91 => ?_) (fun h91 => absurd h91 hz)
    refine j_iload3 99 dX11_sheet_98 rfl ?_
    refine j_iast 100 0 rfl (by decide) dX11_sheet_99 rfl rfl ?_
    refine j_iconst 101 (v := 1) dX11_sheet_100 rfl rfl ?_
    refine j_iret dX11_sheet_101 rfl ?_
    exact ⟨rfl, rfl⟩
  · refine j_iload2 18 dX11_sheet_17 rfl ?_
    refine j_bipush 20 (v := 16) dX11_sheet_18 rfl rfl ?_
    refine j_cmp_eq 36 23 dX11_sheet_20 rfl rfl (fun h20 => ?_) (fun h20 => ?_)
    · refine j_iload2 37 dX11_sheet_36 rfl ?_
      refine j_if_eq 51 40 dX11_sheet_37 rfl rfl (fun h37 => absurd h37 hz) (fun h37 => ?_)
      refine j_iload3 41 dX11_sheet_40 rfl ?_
      refine j_if_ge 51 44 dX11_sheet_41 rfl rfl (fun h41 => ?_) (fun h41 => absurd h1 h41)
      refine j_iload2 52 dX11_sheet_51 rfl ?_
      refine j_if_eq 68 55 dX11_sheet_52 rfl rfl (fun h52 => absurd h52 hz) (fun h52 => ?_)
      refine j_iload3 56 dX11_sheet_55 rfl ?_
      refine j_bipush 58 (v := 40) dX11_sheet_56 rfl rfl ?_
      refine j_cmp_le 68 61 dX11_sheet_58 rfl rfl (fun h58 => ?_) (fun h58 => absurd h2 h58)
      refine j_aload0 69 dX11_sheet_68 rfl ?_
      refine j_getR 72 dX11_sheet_69 rfl fl_X11_64 rfl rfl ?_
      refine j_iload1 73 dX11_sheet_72 rfl ?_
      refine j_aald 74 0 rfl (by decide) dX11_sheet_73 rfl (by decide) ?_
      refine j_ref (b := 61) (by decide) ?_
      refine j_iconst 75 (v := 0) dX11_sheet_74 rfl rfl ?_
      refine j_st2v 78 dX11_sheet_75 rfl rfl cl_X11_279 rfl (c_fill_0 m) ?_
      refine j_aload0 79 dX11_sheet_78 rfl ?_
      refine j_getR 82 dX11_sheet_79 rfl fl_X11_67 rfl rfl ?_
      refine j_iload1 83 dX11_sheet_82 rfl ?_
      refine j_iload2 84 dX11_sheet_83 rfl ?_
      refine j_iast 85 0 rfl (by decide) dX11_sheet_84 rfl rfl ?_
      refine j_aload0 86 dX11_sheet_85 rfl ?_
      refine j_getR 89 dX11_sheet_86 rfl fl_X11_71 rfl rfl ?_
      refine j_iload1 90 dX11_sheet_89 rfl ?_
      refine j_iload2 91 dX11_sheet_90 rfl ?_
      refine j_if_ne 98 94 dX11_sheet_91 rfl rfl (fun h91 => ?_) (fun h91 => absurd h91 hz)
      refine j_iload3 99 dX11_sheet_98 rfl ?_
      refine j_iast 100 0 rfl (by decide) dX11_sheet_99 rfl rfl ?_
      refine j_iconst 101 (v := 1) dX11_sheet_100 rfl rfl ?_
      refine j_iret dX11_sheet_101 rfl ?_
      exact ⟨rfl, rfl⟩
    · refine j_iload2 24 dX11_sheet_23 rfl ?_
      refine j_bipush 26 (v := 32) dX11_sheet_24 rfl rfl ?_
      refine j_cmp_eq 36 29 dX11_sheet_26 rfl rfl (fun h26 => ?_) (fun h26 => ?_)
      · refine j_iload2 37 dX11_sheet_36 rfl ?_
        refine j_if_eq 51 40 dX11_sheet_37 rfl rfl (fun h37 => absurd h37 hz) (fun h37 => ?_)
        refine j_iload3 41 dX11_sheet_40 rfl ?_
        refine j_if_ge 51 44 dX11_sheet_41 rfl rfl (fun h41 => ?_) (fun h41 => absurd h1 h41)
        refine j_iload2 52 dX11_sheet_51 rfl ?_
        refine j_if_eq 68 55 dX11_sheet_52 rfl rfl (fun h52 => absurd h52 hz) (fun h52 => ?_)
        refine j_iload3 56 dX11_sheet_55 rfl ?_
        refine j_bipush 58 (v := 40) dX11_sheet_56 rfl rfl ?_
        refine j_cmp_le 68 61 dX11_sheet_58 rfl rfl (fun h58 => ?_) (fun h58 => absurd h2 h58)
        refine j_aload0 69 dX11_sheet_68 rfl ?_
        refine j_getR 72 dX11_sheet_69 rfl fl_X11_64 rfl rfl ?_
        refine j_iload1 73 dX11_sheet_72 rfl ?_
        refine j_aald 74 0 rfl (by decide) dX11_sheet_73 rfl (by decide) ?_
        refine j_ref (b := 61) (by decide) ?_
        refine j_iconst 75 (v := 0) dX11_sheet_74 rfl rfl ?_
        refine j_st2v 78 dX11_sheet_75 rfl rfl cl_X11_279 rfl (c_fill_0 m) ?_
        refine j_aload0 79 dX11_sheet_78 rfl ?_
        refine j_getR 82 dX11_sheet_79 rfl fl_X11_67 rfl rfl ?_
        refine j_iload1 83 dX11_sheet_82 rfl ?_
        refine j_iload2 84 dX11_sheet_83 rfl ?_
        refine j_iast 85 0 rfl (by decide) dX11_sheet_84 rfl rfl ?_
        refine j_aload0 86 dX11_sheet_85 rfl ?_
        refine j_getR 89 dX11_sheet_86 rfl fl_X11_71 rfl rfl ?_
        refine j_iload1 90 dX11_sheet_89 rfl ?_
        refine j_iload2 91 dX11_sheet_90 rfl ?_
        refine j_if_ne 98 94 dX11_sheet_91 rfl rfl (fun h91 => ?_) (fun h91 => absurd h91 hz)
        refine j_iload3 99 dX11_sheet_98 rfl ?_
        refine j_iast 100 0 rfl (by decide) dX11_sheet_99 rfl rfl ?_
        refine j_iconst 101 (v := 1) dX11_sheet_100 rfl rfl ?_
        refine j_iret dX11_sheet_101 rfl ?_
        exact ⟨rfl, rfl⟩
      · exact absurd hb (fun q => by rcases q with q | q | q | q; exact hz q; exact h14 q; exact h20 q; exact h26 q)
set_option maxRecDepth 100000 in
theorem lp_fill_1 {Q : Option Value → Mem → Prop} (m0 : Mem) (kk : Q none (upR m0 62 (fun j => if j < 40 then (fun _ => 0) j else m0 62 j))) : ∀ (k i : Nat), i + k = 40 → J l g 0 mJ7_fill_53178 5 [some (rf g 62), some (.int 0), some (.int (nI i)), some (.int (nI 40))] [] (upR m0 62 (fun j => if j < i then (fun _ => 0) j else m0 62 j)) Q := by
  intro k
  induction k with
  | zero =>
    intro i e
    have e : i = 40 := by omega
    subst e
    refine j_iload2 6 dJ7_fill_53178_5 rfl ?_
    refine j_iload3 7 dJ7_fill_53178_6 rfl ?_
    refine j_cmp_ge 20 10 dJ7_fill_53178_7 rfl rfl (fun h7 => ?_) (fun h7 => absurd (by decide) h7)
    refine j_vret dJ7_fill_53178_20 rfl ?_
    exact kk
  | succ k ih =>
    intro i e
    have e2 : nI i + 1 = nI (i + 1) := nI_1 i
    refine j_iload2 6 dJ7_fill_53178_5 rfl ?_
    refine j_iload3 7 dJ7_fill_53178_6 rfl ?_
    refine j_cmp_ge 20 10 dJ7_fill_53178_7 rfl rfl (fun h7 => absurd h7 (nI_ge (a := i) (b := 40) (by omega) (by decide))) (fun h7 => ?_)
    refine j_aload0 11 dJ7_fill_53178_10 rfl ?_
    refine j_iload2 12 dJ7_fill_53178_11 rfl ?_
    refine j_iload1 13 dJ7_fill_53178_12 rfl ?_
    refine j_iast 14 _ rfl (show i < 40 by omega) dJ7_fill_53178_13 rfl rfl ?_
    refine j_iinc2 17 (1) dJ7_fill_53178_14 rfl rfl rfl rfl ?_
    refine j_goto 5 dJ7_fill_53178_17 rfl ?_
    rw [e2]
    refine j_mem (upR_nx (f := fun _ => 0) (h := m0 62)) ?_
    exact ih (i + 1) (by omega)
set_option maxRecDepth 100000 in
theorem c_fill_1 (m : Mem) : JM l g 0 mJ7_fill_53178 [rf g 62, .int 0] m (RF none (upR m 62 (zr1 m 62))) := by
  refine JM_of (ls := [some (rf g 62), some (.int 0), none, none]) pn_J7 rfl rfl ?_
  refine j_iconst 1 (v := 0) dJ7_fill_53178_0 rfl rfl ?_
  refine j_istore2 2 dJ7_fill_53178_1 rfl rfl rfl ?_
  refine j_aload0 3 dJ7_fill_53178_2 rfl ?_
  refine j_alen 4 dJ7_fill_53178_3 rfl rfl ?_
  refine j_top (z := nI 40) rfl ?_
  refine j_istore3 5 dJ7_fill_53178_4 rfl rfl rfl ?_
  refine j_mem (upR_n0 (c := 62) (f := fun j => if j < 0 then (fun _ => 0) j else m 62 j) (fun j => if_neg (Nat.not_lt_zero j))).symm ?_
  exact lp_fill_1 m ⟨rfl, rfl⟩ 40 0 rfl
set_option maxRecDepth 100000 in
theorem o_sheetZ_1 (m : Mem) (n : Int32) : JM l g 2 mX11_sheet [rf g 0, .int (nI 1), .int 0, .int n] m (RF (some (.int 1)) (up2 (up2 (upR m 62 (zr1 m 62)) 65 1 0) 66 1 0)) := by
  refine JM_of (ls := [some (rf g 0), some (.int (nI 1)), some (.int 0), some (.int n)]) pn_X11 rfl rfl ?_
  refine j_iload1 1 dX11_sheet_0 rfl ?_
  refine j_st1f 4 dX11_sheet_1 rfl rfl cl_X11_230 rfl (c_isSheet m _) ?_
  refine j_if_eq_bz 29 7 dX11_sheet_4 rfl rfl (fun h4 => absurd (by decide) h4) (fun h4 => ?_)
  refine j_iload2 8 dX11_sheet_7 rfl ?_
  refine j_if_eq 36 11 dX11_sheet_8 rfl rfl (fun h8 => ?_) (fun h8 => absurd (by decide) h8)
  refine j_iload2 37 dX11_sheet_36 rfl ?_
  refine j_if_eq 51 40 dX11_sheet_37 rfl rfl (fun h37 => ?_) (fun h37 => absurd (by decide) h37)
  refine j_iload2 52 dX11_sheet_51 rfl ?_
  refine j_if_eq 68 55 dX11_sheet_52 rfl rfl (fun h52 => ?_) (fun h52 => absurd (by decide) h52)
  refine j_aload0 69 dX11_sheet_68 rfl ?_
  refine j_getR 72 dX11_sheet_69 rfl fl_X11_64 rfl rfl ?_
  refine j_iload1 73 dX11_sheet_72 rfl ?_
  refine j_aald 74 1 rfl (by decide) dX11_sheet_73 rfl (by decide) ?_
  refine j_ref (b := 62) (by decide) ?_
  refine j_iconst 75 (v := 0) dX11_sheet_74 rfl rfl ?_
  refine j_st2v 78 dX11_sheet_75 rfl rfl cl_X11_279 rfl (c_fill_1 m) ?_
  refine j_aload0 79 dX11_sheet_78 rfl ?_
  refine j_getR 82 dX11_sheet_79 rfl fl_X11_67 rfl rfl ?_
  refine j_iload1 83 dX11_sheet_82 rfl ?_
  refine j_iload2 84 dX11_sheet_83 rfl ?_
  refine j_iast 85 1 rfl (by decide) dX11_sheet_84 rfl rfl ?_
  refine j_aload0 86 dX11_sheet_85 rfl ?_
  refine j_getR 89 dX11_sheet_86 rfl fl_X11_71 rfl rfl ?_
  refine j_iload1 90 dX11_sheet_89 rfl ?_
  refine j_iload2 91 dX11_sheet_90 rfl ?_
  refine j_if_ne 98 94 dX11_sheet_91 rfl rfl (fun h91 => absurd h91 (fun q => q rfl)) (fun h91 => ?_)
  refine j_iconst 95 (v := 0) dX11_sheet_94 rfl rfl ?_
  refine j_goto 99 dX11_sheet_95 rfl ?_
  refine j_iast 100 1 rfl (by decide) dX11_sheet_99 rfl rfl ?_
  refine j_iconst 101 (v := 1) dX11_sheet_100 rfl rfl ?_
  refine j_iret dX11_sheet_101 rfl ?_
  exact ⟨rfl, rfl⟩
set_option maxRecDepth 100000 in
theorem o_sheetN_1 (m : Mem) (b n : Int32) (hz : ¬ b = 0) (hb : cB b) (h1 : 0 ≤ n) (h2 : n ≤ 40) : JM l g 2 mX11_sheet [rf g 0, .int (nI 1), .int b, .int n] m (RF (some (.int 1)) (up2 (up2 (upR m 62 (zr1 m 62)) 65 1 b) 66 1 n)) := by
  refine JM_of (ls := [some (rf g 0), some (.int (nI 1)), some (.int b), some (.int n)]) pn_X11 rfl rfl ?_
  refine j_iload1 1 dX11_sheet_0 rfl ?_
  refine j_st1f 4 dX11_sheet_1 rfl rfl cl_X11_230 rfl (c_isSheet m _) ?_
  refine j_if_eq_bz 29 7 dX11_sheet_4 rfl rfl (fun h4 => absurd (by decide) h4) (fun h4 => ?_)
  refine j_iload2 8 dX11_sheet_7 rfl ?_
  refine j_if_eq 36 11 dX11_sheet_8 rfl rfl (fun h8 => absurd h8 hz) (fun h8 => ?_)
  refine j_iload2 12 dX11_sheet_11 rfl ?_
  refine j_bipush 14 (v := 8) dX11_sheet_12 rfl rfl ?_
  refine j_cmp_eq 36 17 dX11_sheet_14 rfl rfl (fun h14 => ?_) (fun h14 => ?_)
  · refine j_iload2 37 dX11_sheet_36 rfl ?_
    refine j_if_eq 51 40 dX11_sheet_37 rfl rfl (fun h37 => absurd h37 hz) (fun h37 => ?_)
    refine j_iload3 41 dX11_sheet_40 rfl ?_
    refine j_if_ge 51 44 dX11_sheet_41 rfl rfl (fun h41 => ?_) (fun h41 => absurd h1 h41)
    refine j_iload2 52 dX11_sheet_51 rfl ?_
    refine j_if_eq 68 55 dX11_sheet_52 rfl rfl (fun h52 => absurd h52 hz) (fun h52 => ?_)
    refine j_iload3 56 dX11_sheet_55 rfl ?_
    refine j_bipush 58 (v := 40) dX11_sheet_56 rfl rfl ?_
    refine j_cmp_le 68 61 dX11_sheet_58 rfl rfl (fun h58 => ?_) (fun h58 => absurd h2 h58)
    refine j_aload0 69 dX11_sheet_68 rfl ?_
    refine j_getR 72 dX11_sheet_69 rfl fl_X11_64 rfl rfl ?_
    refine j_iload1 73 dX11_sheet_72 rfl ?_
    refine j_aald 74 1 rfl (by decide) dX11_sheet_73 rfl (by decide) ?_
    refine j_ref (b := 62) (by decide) ?_
    refine j_iconst 75 (v := 0) dX11_sheet_74 rfl rfl ?_
    refine j_st2v 78 dX11_sheet_75 rfl rfl cl_X11_279 rfl (c_fill_1 m) ?_
    refine j_aload0 79 dX11_sheet_78 rfl ?_
    refine j_getR 82 dX11_sheet_79 rfl fl_X11_67 rfl rfl ?_
    refine j_iload1 83 dX11_sheet_82 rfl ?_
    refine j_iload2 84 dX11_sheet_83 rfl ?_
    refine j_iast 85 1 rfl (by decide) dX11_sheet_84 rfl rfl ?_
    refine j_aload0 86 dX11_sheet_85 rfl ?_
    refine j_getR 89 dX11_sheet_86 rfl fl_X11_71 rfl rfl ?_
    refine j_iload1 90 dX11_sheet_89 rfl ?_
    refine j_iload2 91 dX11_sheet_90 rfl ?_
    refine j_if_ne 98 94 dX11_sheet_91 rfl rfl (fun h91 => ?_) (fun h91 => absurd h91 hz)
    refine j_iload3 99 dX11_sheet_98 rfl ?_
    refine j_iast 100 1 rfl (by decide) dX11_sheet_99 rfl rfl ?_
    refine j_iconst 101 (v := 1) dX11_sheet_100 rfl rfl ?_
    refine j_iret dX11_sheet_101 rfl ?_
    exact ⟨rfl, rfl⟩
  · refine j_iload2 18 dX11_sheet_17 rfl ?_
    refine j_bipush 20 (v := 16) dX11_sheet_18 rfl rfl ?_
    refine j_cmp_eq 36 23 dX11_sheet_20 rfl rfl (fun h20 => ?_) (fun h20 => ?_)
    · refine j_iload2 37 dX11_sheet_36 rfl ?_
      refine j_if_eq 51 40 dX11_sheet_37 rfl rfl (fun h37 => absurd h37 hz) (fun h37 => ?_)
      refine j_iload3 41 dX11_sheet_40 rfl ?_
      refine j_if_ge 51 44 dX11_sheet_41 rfl rfl (fun h41 => ?_) (fun h41 => absurd h1 h41)
      refine j_iload2 52 dX11_sheet_51 rfl ?_
      refine j_if_eq 68 55 dX11_sheet_52 rfl rfl (fun h52 => absurd h52 hz) (fun h52 => ?_)
      refine j_iload3 56 dX11_sheet_55 rfl ?_
      refine j_bipush 58 (v := 40) dX11_sheet_56 rfl rfl ?_
      refine j_cmp_le 68 61 dX11_sheet_58 rfl rfl (fun h58 => ?_) (fun h58 => absurd h2 h58)
      refine j_aload0 69 dX11_sheet_68 rfl ?_
      refine j_getR 72 dX11_sheet_69 rfl fl_X11_64 rfl rfl ?_
      refine j_iload1 73 dX11_sheet_72 rfl ?_
      refine j_aald 74 1 rfl (by decide) dX11_sheet_73 rfl (by decide) ?_
      refine j_ref (b := 62) (by decide) ?_
      refine j_iconst 75 (v := 0) dX11_sheet_74 rfl rfl ?_
      refine j_st2v 78 dX11_sheet_75 rfl rfl cl_X11_279 rfl (c_fill_1 m) ?_
      refine j_aload0 79 dX11_sheet_78 rfl ?_
      refine j_getR 82 dX11_sheet_79 rfl fl_X11_67 rfl rfl ?_
      refine j_iload1 83 dX11_sheet_82 rfl ?_
      refine j_iload2 84 dX11_sheet_83 rfl ?_
      refine j_iast 85 1 rfl (by decide) dX11_sheet_84 rfl rfl ?_
      refine j_aload0 86 dX11_sheet_85 rfl ?_
      refine j_getR 89 dX11_sheet_86 rfl fl_X11_71 rfl rfl ?_
      refine j_iload1 90 dX11_sheet_89 rfl ?_
      refine j_iload2 91 dX11_sheet_90 rfl ?_
      refine j_if_ne 98 94 dX11_sheet_91 rfl rfl (fun h91 => ?_) (fun h91 => absurd h91 hz)
      refine j_iload3 99 dX11_sheet_98 rfl ?_
      refine j_iast 100 1 rfl (by decide) dX11_sheet_99 rfl rfl ?_
      refine j_iconst 101 (v := 1) dX11_sheet_100 rfl rfl ?_
      refine j_iret dX11_sheet_101 rfl ?_
      exact ⟨rfl, rfl⟩
    · refine j_iload2 24 dX11_sheet_23 rfl ?_
      refine j_bipush 26 (v := 32) dX11_sheet_24 rfl rfl ?_
      refine j_cmp_eq 36 29 dX11_sheet_26 rfl rfl (fun h26 => ?_) (fun h26 => ?_)
      · refine j_iload2 37 dX11_sheet_36 rfl ?_
        refine j_if_eq 51 40 dX11_sheet_37 rfl rfl (fun h37 => absurd h37 hz) (fun h37 => ?_)
        refine j_iload3 41 dX11_sheet_40 rfl ?_
        refine j_if_ge 51 44 dX11_sheet_41 rfl rfl (fun h41 => ?_) (fun h41 => absurd h1 h41)
        refine j_iload2 52 dX11_sheet_51 rfl ?_
        refine j_if_eq 68 55 dX11_sheet_52 rfl rfl (fun h52 => absurd h52 hz) (fun h52 => ?_)
        refine j_iload3 56 dX11_sheet_55 rfl ?_
        refine j_bipush 58 (v := 40) dX11_sheet_56 rfl rfl ?_
        refine j_cmp_le 68 61 dX11_sheet_58 rfl rfl (fun h58 => ?_) (fun h58 => absurd h2 h58)
        refine j_aload0 69 dX11_sheet_68 rfl ?_
        refine j_getR 72 dX11_sheet_69 rfl fl_X11_64 rfl rfl ?_
        refine j_iload1 73 dX11_sheet_72 rfl ?_
        refine j_aald 74 1 rfl (by decide) dX11_sheet_73 rfl (by decide) ?_
        refine j_ref (b := 62) (by decide) ?_
        refine j_iconst 75 (v := 0) dX11_sheet_74 rfl rfl ?_
        refine j_st2v 78 dX11_sheet_75 rfl rfl cl_X11_279 rfl (c_fill_1 m) ?_
        refine j_aload0 79 dX11_sheet_78 rfl ?_
        refine j_getR 82 dX11_sheet_79 rfl fl_X11_67 rfl rfl ?_
        refine j_iload1 83 dX11_sheet_82 rfl ?_
        refine j_iload2 84 dX11_sheet_83 rfl ?_
        refine j_iast 85 1 rfl (by decide) dX11_sheet_84 rfl rfl ?_
        refine j_aload0 86 dX11_sheet_85 rfl ?_
        refine j_getR 89 dX11_sheet_86 rfl fl_X11_71 rfl rfl ?_
        refine j_iload1 90 dX11_sheet_89 rfl ?_
        refine j_iload2 91 dX11_sheet_90 rfl ?_
        refine j_if_ne 98 94 dX11_sheet_91 rfl rfl (fun h91 => ?_) (fun h91 => absurd h91 hz)
        refine j_iload3 99 dX11_sheet_98 rfl ?_
        refine j_iast 100 1 rfl (by decide) dX11_sheet_99 rfl rfl ?_
        refine j_iconst 101 (v := 1) dX11_sheet_100 rfl rfl ?_
        refine j_iret dX11_sheet_101 rfl ?_
        exact ⟨rfl, rfl⟩
      · exact absurd hb (fun q => by rcases q with q | q | q | q; exact hz q; exact h14 q; exact h20 q; exact h26 q)
set_option maxRecDepth 100000 in
theorem lp_fill_2 {Q : Option Value → Mem → Prop} (m0 : Mem) (kk : Q none (upR m0 63 (fun j => if j < 40 then (fun _ => 0) j else m0 63 j))) : ∀ (k i : Nat), i + k = 40 → J l g 0 mJ7_fill_53178 5 [some (rf g 63), some (.int 0), some (.int (nI i)), some (.int (nI 40))] [] (upR m0 63 (fun j => if j < i then (fun _ => 0) j else m0 63 j)) Q := by
  intro k
  induction k with
  | zero =>
    intro i e
    have e : i = 40 := by omega
    subst e
    refine j_iload2 6 dJ7_fill_53178_5 rfl ?_
    refine j_iload3 7 dJ7_fill_53178_6 rfl ?_
    refine j_cmp_ge 20 10 dJ7_fill_53178_7 rfl rfl (fun h7 => ?_) (fun h7 => absurd (by decide) h7)
    refine j_vret dJ7_fill_53178_20 rfl ?_
    exact kk
  | succ k ih =>
    intro i e
    have e2 : nI i + 1 = nI (i + 1) := nI_1 i
    refine j_iload2 6 dJ7_fill_53178_5 rfl ?_
    refine j_iload3 7 dJ7_fill_53178_6 rfl ?_
    refine j_cmp_ge 20 10 dJ7_fill_53178_7 rfl rfl (fun h7 => absurd h7 (nI_ge (a := i) (b := 40) (by omega) (by decide))) (fun h7 => ?_)
    refine j_aload0 11 dJ7_fill_53178_10 rfl ?_
    refine j_iload2 12 dJ7_fill_53178_11 rfl ?_
    refine j_iload1 13 dJ7_fill_53178_12 rfl ?_
    refine j_iast 14 _ rfl (show i < 40 by omega) dJ7_fill_53178_13 rfl rfl ?_
    refine j_iinc2 17 (1) dJ7_fill_53178_14 rfl rfl rfl rfl ?_
    refine j_goto 5 dJ7_fill_53178_17 rfl ?_
    rw [e2]
    refine j_mem (upR_nx (f := fun _ => 0) (h := m0 63)) ?_
    exact ih (i + 1) (by omega)
set_option maxRecDepth 100000 in
theorem c_fill_2 (m : Mem) : JM l g 0 mJ7_fill_53178 [rf g 63, .int 0] m (RF none (upR m 63 (zr1 m 63))) := by
  refine JM_of (ls := [some (rf g 63), some (.int 0), none, none]) pn_J7 rfl rfl ?_
  refine j_iconst 1 (v := 0) dJ7_fill_53178_0 rfl rfl ?_
  refine j_istore2 2 dJ7_fill_53178_1 rfl rfl rfl ?_
  refine j_aload0 3 dJ7_fill_53178_2 rfl ?_
  refine j_alen 4 dJ7_fill_53178_3 rfl rfl ?_
  refine j_top (z := nI 40) rfl ?_
  refine j_istore3 5 dJ7_fill_53178_4 rfl rfl rfl ?_
  refine j_mem (upR_n0 (c := 63) (f := fun j => if j < 0 then (fun _ => 0) j else m 63 j) (fun j => if_neg (Nat.not_lt_zero j))).symm ?_
  exact lp_fill_2 m ⟨rfl, rfl⟩ 40 0 rfl
set_option maxRecDepth 100000 in
theorem o_sheetZ_2 (m : Mem) (n : Int32) : JM l g 2 mX11_sheet [rf g 0, .int (nI 2), .int 0, .int n] m (RF (some (.int 1)) (up2 (up2 (upR m 63 (zr1 m 63)) 65 2 0) 66 2 0)) := by
  refine JM_of (ls := [some (rf g 0), some (.int (nI 2)), some (.int 0), some (.int n)]) pn_X11 rfl rfl ?_
  refine j_iload1 1 dX11_sheet_0 rfl ?_
  refine j_st1f 4 dX11_sheet_1 rfl rfl cl_X11_230 rfl (c_isSheet m _) ?_
  refine j_if_eq_bz 29 7 dX11_sheet_4 rfl rfl (fun h4 => absurd (by decide) h4) (fun h4 => ?_)
  refine j_iload2 8 dX11_sheet_7 rfl ?_
  refine j_if_eq 36 11 dX11_sheet_8 rfl rfl (fun h8 => ?_) (fun h8 => absurd (by decide) h8)
  refine j_iload2 37 dX11_sheet_36 rfl ?_
  refine j_if_eq 51 40 dX11_sheet_37 rfl rfl (fun h37 => ?_) (fun h37 => absurd (by decide) h37)
  refine j_iload2 52 dX11_sheet_51 rfl ?_
  refine j_if_eq 68 55 dX11_sheet_52 rfl rfl (fun h52 => ?_) (fun h52 => absurd (by decide) h52)
  refine j_aload0 69 dX11_sheet_68 rfl ?_
  refine j_getR 72 dX11_sheet_69 rfl fl_X11_64 rfl rfl ?_
  refine j_iload1 73 dX11_sheet_72 rfl ?_
  refine j_aald 74 2 rfl (by decide) dX11_sheet_73 rfl (by decide) ?_
  refine j_ref (b := 63) (by decide) ?_
  refine j_iconst 75 (v := 0) dX11_sheet_74 rfl rfl ?_
  refine j_st2v 78 dX11_sheet_75 rfl rfl cl_X11_279 rfl (c_fill_2 m) ?_
  refine j_aload0 79 dX11_sheet_78 rfl ?_
  refine j_getR 82 dX11_sheet_79 rfl fl_X11_67 rfl rfl ?_
  refine j_iload1 83 dX11_sheet_82 rfl ?_
  refine j_iload2 84 dX11_sheet_83 rfl ?_
  refine j_iast 85 2 rfl (by decide) dX11_sheet_84 rfl rfl ?_
  refine j_aload0 86 dX11_sheet_85 rfl ?_
  refine j_getR 89 dX11_sheet_86 rfl fl_X11_71 rfl rfl ?_
  refine j_iload1 90 dX11_sheet_89 rfl ?_
  refine j_iload2 91 dX11_sheet_90 rfl ?_
  refine j_if_ne 98 94 dX11_sheet_91 rfl rfl (fun h91 => absurd h91 (fun q => q rfl)) (fun h91 => ?_)
  refine j_iconst 95 (v := 0) dX11_sheet_94 rfl rfl ?_
  refine j_goto 99 dX11_sheet_95 rfl ?_
  refine j_iast 100 2 rfl (by decide) dX11_sheet_99 rfl rfl ?_
  refine j_iconst 101 (v := 1) dX11_sheet_100 rfl rfl ?_
  refine j_iret dX11_sheet_101 rfl ?_
  exact ⟨rfl, rfl⟩
set_option maxRecDepth 100000 in
theorem o_sheetN_2 (m : Mem) (b n : Int32) (hz : ¬ b = 0) (hb : cB b) (h1 : 0 ≤ n) (h2 : n ≤ 40) : JM l g 2 mX11_sheet [rf g 0, .int (nI 2), .int b, .int n] m (RF (some (.int 1)) (up2 (up2 (upR m 63 (zr1 m 63)) 65 2 b) 66 2 n)) := by
  refine JM_of (ls := [some (rf g 0), some (.int (nI 2)), some (.int b), some (.int n)]) pn_X11 rfl rfl ?_
  refine j_iload1 1 dX11_sheet_0 rfl ?_
  refine j_st1f 4 dX11_sheet_1 rfl rfl cl_X11_230 rfl (c_isSheet m _) ?_
  refine j_if_eq_bz 29 7 dX11_sheet_4 rfl rfl (fun h4 => absurd (by decide) h4) (fun h4 => ?_)
  refine j_iload2 8 dX11_sheet_7 rfl ?_
  refine j_if_eq 36 11 dX11_sheet_8 rfl rfl (fun h8 => absurd h8 hz) (fun h8 => ?_)
  refine j_iload2 12 dX11_sheet_11 rfl ?_
  refine j_bipush 14 (v := 8) dX11_sheet_12 rfl rfl ?_
  refine j_cmp_eq 36 17 dX11_sheet_14 rfl rfl (fun h14 => ?_) (fun h14 => ?_)
  · refine j_iload2 37 dX11_sheet_36 rfl ?_
    refine j_if_eq 51 40 dX11_sheet_37 rfl rfl (fun h37 => absurd h37 hz) (fun h37 => ?_)
    refine j_iload3 41 dX11_sheet_40 rfl ?_
    refine j_if_ge 51 44 dX11_sheet_41 rfl rfl (fun h41 => ?_) (fun h41 => absurd h1 h41)
    refine j_iload2 52 dX11_sheet_51 rfl ?_
    refine j_if_eq 68 55 dX11_sheet_52 rfl rfl (fun h52 => absurd h52 hz) (fun h52 => ?_)
    refine j_iload3 56 dX11_sheet_55 rfl ?_
    refine j_bipush 58 (v := 40) dX11_sheet_56 rfl rfl ?_
    refine j_cmp_le 68 61 dX11_sheet_58 rfl rfl (fun h58 => ?_) (fun h58 => absurd h2 h58)
    refine j_aload0 69 dX11_sheet_68 rfl ?_
    refine j_getR 72 dX11_sheet_69 rfl fl_X11_64 rfl rfl ?_
    refine j_iload1 73 dX11_sheet_72 rfl ?_
    refine j_aald 74 2 rfl (by decide) dX11_sheet_73 rfl (by decide) ?_
    refine j_ref (b := 63) (by decide) ?_
    refine j_iconst 75 (v := 0) dX11_sheet_74 rfl rfl ?_
    refine j_st2v 78 dX11_sheet_75 rfl rfl cl_X11_279 rfl (c_fill_2 m) ?_
    refine j_aload0 79 dX11_sheet_78 rfl ?_
    refine j_getR 82 dX11_sheet_79 rfl fl_X11_67 rfl rfl ?_
    refine j_iload1 83 dX11_sheet_82 rfl ?_
    refine j_iload2 84 dX11_sheet_83 rfl ?_
    refine j_iast 85 2 rfl (by decide) dX11_sheet_84 rfl rfl ?_
    refine j_aload0 86 dX11_sheet_85 rfl ?_
    refine j_getR 89 dX11_sheet_86 rfl fl_X11_71 rfl rfl ?_
    refine j_iload1 90 dX11_sheet_89 rfl ?_
    refine j_iload2 91 dX11_sheet_90 rfl ?_
    refine j_if_ne 98 94 dX11_sheet_91 rfl rfl (fun h91 => ?_) (fun h91 => absurd h91 hz)
    refine j_iload3 99 dX11_sheet_98 rfl ?_
    refine j_iast 100 2 rfl (by decide) dX11_sheet_99 rfl rfl ?_
    refine j_iconst 101 (v := 1) dX11_sheet_100 rfl rfl ?_
    refine j_iret dX11_sheet_101 rfl ?_
    exact ⟨rfl, rfl⟩
  · refine j_iload2 18 dX11_sheet_17 rfl ?_
    refine j_bipush 20 (v := 16) dX11_sheet_18 rfl rfl ?_
    refine j_cmp_eq 36 23 dX11_sheet_20 rfl rfl (fun h20 => ?_) (fun h20 => ?_)
    · refine j_iload2 37 dX11_sheet_36 rfl ?_
      refine j_if_eq 51 40 dX11_sheet_37 rfl rfl (fun h37 => absurd h37 hz) (fun h37 => ?_)
      refine j_iload3 41 dX11_sheet_40 rfl ?_
      refine j_if_ge 51 44 dX11_sheet_41 rfl rfl (fun h41 => ?_) (fun h41 => absurd h1 h41)
      refine j_iload2 52 dX11_sheet_51 rfl ?_
      refine j_if_eq 68 55 dX11_sheet_52 rfl rfl (fun h52 => absurd h52 hz) (fun h52 => ?_)
      refine j_iload3 56 dX11_sheet_55 rfl ?_
      refine j_bipush 58 (v := 40) dX11_sheet_56 rfl rfl ?_
      refine j_cmp_le 68 61 dX11_sheet_58 rfl rfl (fun h58 => ?_) (fun h58 => absurd h2 h58)
      refine j_aload0 69 dX11_sheet_68 rfl ?_
      refine j_getR 72 dX11_sheet_69 rfl fl_X11_64 rfl rfl ?_
      refine j_iload1 73 dX11_sheet_72 rfl ?_
      refine j_aald 74 2 rfl (by decide) dX11_sheet_73 rfl (by decide) ?_
      refine j_ref (b := 63) (by decide) ?_
      refine j_iconst 75 (v := 0) dX11_sheet_74 rfl rfl ?_
      refine j_st2v 78 dX11_sheet_75 rfl rfl cl_X11_279 rfl (c_fill_2 m) ?_
      refine j_aload0 79 dX11_sheet_78 rfl ?_
      refine j_getR 82 dX11_sheet_79 rfl fl_X11_67 rfl rfl ?_
      refine j_iload1 83 dX11_sheet_82 rfl ?_
      refine j_iload2 84 dX11_sheet_83 rfl ?_
      refine j_iast 85 2 rfl (by decide) dX11_sheet_84 rfl rfl ?_
      refine j_aload0 86 dX11_sheet_85 rfl ?_
      refine j_getR 89 dX11_sheet_86 rfl fl_X11_71 rfl rfl ?_
      refine j_iload1 90 dX11_sheet_89 rfl ?_
      refine j_iload2 91 dX11_sheet_90 rfl ?_
      refine j_if_ne 98 94 dX11_sheet_91 rfl rfl (fun h91 => ?_) (fun h91 => absurd h91 hz)
      refine j_iload3 99 dX11_sheet_98 rfl ?_
      refine j_iast 100 2 rfl (by decide) dX11_sheet_99 rfl rfl ?_
      refine j_iconst 101 (v := 1) dX11_sheet_100 rfl rfl ?_
      refine j_iret dX11_sheet_101 rfl ?_
      exact ⟨rfl, rfl⟩
    · refine j_iload2 24 dX11_sheet_23 rfl ?_
      refine j_bipush 26 (v := 32) dX11_sheet_24 rfl rfl ?_
      refine j_cmp_eq 36 29 dX11_sheet_26 rfl rfl (fun h26 => ?_) (fun h26 => ?_)
      · refine j_iload2 37 dX11_sheet_36 rfl ?_
        refine j_if_eq 51 40 dX11_sheet_37 rfl rfl (fun h37 => absurd h37 hz) (fun h37 => ?_)
        refine j_iload3 41 dX11_sheet_40 rfl ?_
        refine j_if_ge 51 44 dX11_sheet_41 rfl rfl (fun h41 => ?_) (fun h41 => absurd h1 h41)
        refine j_iload2 52 dX11_sheet_51 rfl ?_
        refine j_if_eq 68 55 dX11_sheet_52 rfl rfl (fun h52 => absurd h52 hz) (fun h52 => ?_)
        refine j_iload3 56 dX11_sheet_55 rfl ?_
        refine j_bipush 58 (v := 40) dX11_sheet_56 rfl rfl ?_
        refine j_cmp_le 68 61 dX11_sheet_58 rfl rfl (fun h58 => ?_) (fun h58 => absurd h2 h58)
        refine j_aload0 69 dX11_sheet_68 rfl ?_
        refine j_getR 72 dX11_sheet_69 rfl fl_X11_64 rfl rfl ?_
        refine j_iload1 73 dX11_sheet_72 rfl ?_
        refine j_aald 74 2 rfl (by decide) dX11_sheet_73 rfl (by decide) ?_
        refine j_ref (b := 63) (by decide) ?_
        refine j_iconst 75 (v := 0) dX11_sheet_74 rfl rfl ?_
        refine j_st2v 78 dX11_sheet_75 rfl rfl cl_X11_279 rfl (c_fill_2 m) ?_
        refine j_aload0 79 dX11_sheet_78 rfl ?_
        refine j_getR 82 dX11_sheet_79 rfl fl_X11_67 rfl rfl ?_
        refine j_iload1 83 dX11_sheet_82 rfl ?_
        refine j_iload2 84 dX11_sheet_83 rfl ?_
        refine j_iast 85 2 rfl (by decide) dX11_sheet_84 rfl rfl ?_
        refine j_aload0 86 dX11_sheet_85 rfl ?_
        refine j_getR 89 dX11_sheet_86 rfl fl_X11_71 rfl rfl ?_
        refine j_iload1 90 dX11_sheet_89 rfl ?_
        refine j_iload2 91 dX11_sheet_90 rfl ?_
        refine j_if_ne 98 94 dX11_sheet_91 rfl rfl (fun h91 => ?_) (fun h91 => absurd h91 hz)
        refine j_iload3 99 dX11_sheet_98 rfl ?_
        refine j_iast 100 2 rfl (by decide) dX11_sheet_99 rfl rfl ?_
        refine j_iconst 101 (v := 1) dX11_sheet_100 rfl rfl ?_
        refine j_iret dX11_sheet_101 rfl ?_
        exact ⟨rfl, rfl⟩
      · exact absurd hb (fun q => by rcases q with q | q | q | q; exact hz q; exact h14 q; exact h20 q; exact h26 q)
set_option maxRecDepth 100000 in
theorem lp_fill_3 {Q : Option Value → Mem → Prop} (m0 : Mem) (kk : Q none (upR m0 64 (fun j => if j < 40 then (fun _ => 0) j else m0 64 j))) : ∀ (k i : Nat), i + k = 40 → J l g 0 mJ7_fill_53178 5 [some (rf g 64), some (.int 0), some (.int (nI i)), some (.int (nI 40))] [] (upR m0 64 (fun j => if j < i then (fun _ => 0) j else m0 64 j)) Q := by
  intro k
  induction k with
  | zero =>
    intro i e
    have e : i = 40 := by omega
    subst e
    refine j_iload2 6 dJ7_fill_53178_5 rfl ?_
    refine j_iload3 7 dJ7_fill_53178_6 rfl ?_
    refine j_cmp_ge 20 10 dJ7_fill_53178_7 rfl rfl (fun h7 => ?_) (fun h7 => absurd (by decide) h7)
    refine j_vret dJ7_fill_53178_20 rfl ?_
    exact kk
  | succ k ih =>
    intro i e
    have e2 : nI i + 1 = nI (i + 1) := nI_1 i
    refine j_iload2 6 dJ7_fill_53178_5 rfl ?_
    refine j_iload3 7 dJ7_fill_53178_6 rfl ?_
    refine j_cmp_ge 20 10 dJ7_fill_53178_7 rfl rfl (fun h7 => absurd h7 (nI_ge (a := i) (b := 40) (by omega) (by decide))) (fun h7 => ?_)
    refine j_aload0 11 dJ7_fill_53178_10 rfl ?_
    refine j_iload2 12 dJ7_fill_53178_11 rfl ?_
    refine j_iload1 13 dJ7_fill_53178_12 rfl ?_
    refine j_iast 14 _ rfl (show i < 40 by omega) dJ7_fill_53178_13 rfl rfl ?_
    refine j_iinc2 17 (1) dJ7_fill_53178_14 rfl rfl rfl rfl ?_
    refine j_goto 5 dJ7_fill_53178_17 rfl ?_
    rw [e2]
    refine j_mem (upR_nx (f := fun _ => 0) (h := m0 64)) ?_
    exact ih (i + 1) (by omega)
set_option maxRecDepth 100000 in
theorem c_fill_3 (m : Mem) : JM l g 0 mJ7_fill_53178 [rf g 64, .int 0] m (RF none (upR m 64 (zr1 m 64))) := by
  refine JM_of (ls := [some (rf g 64), some (.int 0), none, none]) pn_J7 rfl rfl ?_
  refine j_iconst 1 (v := 0) dJ7_fill_53178_0 rfl rfl ?_
  refine j_istore2 2 dJ7_fill_53178_1 rfl rfl rfl ?_
  refine j_aload0 3 dJ7_fill_53178_2 rfl ?_
  refine j_alen 4 dJ7_fill_53178_3 rfl rfl ?_
  refine j_top (z := nI 40) rfl ?_
  refine j_istore3 5 dJ7_fill_53178_4 rfl rfl rfl ?_
  refine j_mem (upR_n0 (c := 64) (f := fun j => if j < 0 then (fun _ => 0) j else m 64 j) (fun j => if_neg (Nat.not_lt_zero j))).symm ?_
  exact lp_fill_3 m ⟨rfl, rfl⟩ 40 0 rfl
set_option maxRecDepth 100000 in
theorem o_sheetZ_3 (m : Mem) (n : Int32) : JM l g 2 mX11_sheet [rf g 0, .int (nI 3), .int 0, .int n] m (RF (some (.int 1)) (up2 (up2 (upR m 64 (zr1 m 64)) 65 3 0) 66 3 0)) := by
  refine JM_of (ls := [some (rf g 0), some (.int (nI 3)), some (.int 0), some (.int n)]) pn_X11 rfl rfl ?_
  refine j_iload1 1 dX11_sheet_0 rfl ?_
  refine j_st1f 4 dX11_sheet_1 rfl rfl cl_X11_230 rfl (c_isSheet m _) ?_
  refine j_if_eq_bz 29 7 dX11_sheet_4 rfl rfl (fun h4 => absurd (by decide) h4) (fun h4 => ?_)
  refine j_iload2 8 dX11_sheet_7 rfl ?_
  refine j_if_eq 36 11 dX11_sheet_8 rfl rfl (fun h8 => ?_) (fun h8 => absurd (by decide) h8)
  refine j_iload2 37 dX11_sheet_36 rfl ?_
  refine j_if_eq 51 40 dX11_sheet_37 rfl rfl (fun h37 => ?_) (fun h37 => absurd (by decide) h37)
  refine j_iload2 52 dX11_sheet_51 rfl ?_
  refine j_if_eq 68 55 dX11_sheet_52 rfl rfl (fun h52 => ?_) (fun h52 => absurd (by decide) h52)
  refine j_aload0 69 dX11_sheet_68 rfl ?_
  refine j_getR 72 dX11_sheet_69 rfl fl_X11_64 rfl rfl ?_
  refine j_iload1 73 dX11_sheet_72 rfl ?_
  refine j_aald 74 3 rfl (by decide) dX11_sheet_73 rfl (by decide) ?_
  refine j_ref (b := 64) (by decide) ?_
  refine j_iconst 75 (v := 0) dX11_sheet_74 rfl rfl ?_
  refine j_st2v 78 dX11_sheet_75 rfl rfl cl_X11_279 rfl (c_fill_3 m) ?_
  refine j_aload0 79 dX11_sheet_78 rfl ?_
  refine j_getR 82 dX11_sheet_79 rfl fl_X11_67 rfl rfl ?_
  refine j_iload1 83 dX11_sheet_82 rfl ?_
  refine j_iload2 84 dX11_sheet_83 rfl ?_
  refine j_iast 85 3 rfl (by decide) dX11_sheet_84 rfl rfl ?_
  refine j_aload0 86 dX11_sheet_85 rfl ?_
  refine j_getR 89 dX11_sheet_86 rfl fl_X11_71 rfl rfl ?_
  refine j_iload1 90 dX11_sheet_89 rfl ?_
  refine j_iload2 91 dX11_sheet_90 rfl ?_
  refine j_if_ne 98 94 dX11_sheet_91 rfl rfl (fun h91 => absurd h91 (fun q => q rfl)) (fun h91 => ?_)
  refine j_iconst 95 (v := 0) dX11_sheet_94 rfl rfl ?_
  refine j_goto 99 dX11_sheet_95 rfl ?_
  refine j_iast 100 3 rfl (by decide) dX11_sheet_99 rfl rfl ?_
  refine j_iconst 101 (v := 1) dX11_sheet_100 rfl rfl ?_
  refine j_iret dX11_sheet_101 rfl ?_
  exact ⟨rfl, rfl⟩
set_option maxRecDepth 100000 in
theorem o_sheetN_3 (m : Mem) (b n : Int32) (hz : ¬ b = 0) (hb : cB b) (h1 : 0 ≤ n) (h2 : n ≤ 40) : JM l g 2 mX11_sheet [rf g 0, .int (nI 3), .int b, .int n] m (RF (some (.int 1)) (up2 (up2 (upR m 64 (zr1 m 64)) 65 3 b) 66 3 n)) := by
  refine JM_of (ls := [some (rf g 0), some (.int (nI 3)), some (.int b), some (.int n)]) pn_X11 rfl rfl ?_
  refine j_iload1 1 dX11_sheet_0 rfl ?_
  refine j_st1f 4 dX11_sheet_1 rfl rfl cl_X11_230 rfl (c_isSheet m _) ?_
  refine j_if_eq_bz 29 7 dX11_sheet_4 rfl rfl (fun h4 => absurd (by decide) h4) (fun h4 => ?_)
  refine j_iload2 8 dX11_sheet_7 rfl ?_
  refine j_if_eq 36 11 dX11_sheet_8 rfl rfl (fun h8 => absurd h8 hz) (fun h8 => ?_)
  refine j_iload2 12 dX11_sheet_11 rfl ?_
  refine j_bipush 14 (v := 8) dX11_sheet_12 rfl rfl ?_
  refine j_cmp_eq 36 17 dX11_sheet_14 rfl rfl (fun h14 => ?_) (fun h14 => ?_)
  · refine j_iload2 37 dX11_sheet_36 rfl ?_
    refine j_if_eq 51 40 dX11_sheet_37 rfl rfl (fun h37 => absurd h37 hz) (fun h37 => ?_)
    refine j_iload3 41 dX11_sheet_40 rfl ?_
    refine j_if_ge 51 44 dX11_sheet_41 rfl rfl (fun h41 => ?_) (fun h41 => absurd h1 h41)
    refine j_iload2 52 dX11_sheet_51 rfl ?_
    refine j_if_eq 68 55 dX11_sheet_52 rfl rfl (fun h52 => absurd h52 hz) (fun h52 => ?_)
    refine j_iload3 56 dX11_sheet_55 rfl ?_
    refine j_bipush 58 (v := 40) dX11_sheet_56 rfl rfl ?_
    refine j_cmp_le 68 61 dX11_sheet_58 rfl rfl (fun h58 => ?_) (fun h58 => absurd h2 h58)
    refine j_aload0 69 dX11_sheet_68 rfl ?_
    refine j_getR 72 dX11_sheet_69 rfl fl_X11_64 rfl rfl ?_
    refine j_iload1 73 dX11_sheet_72 rfl ?_
    refine j_aald 74 3 rfl (by decide) dX11_sheet_73 rfl (by decide) ?_
    refine j_ref (b := 64) (by decide) ?_
    refine j_iconst 75 (v := 0) dX11_sheet_74 rfl rfl ?_
    refine j_st2v 78 dX11_sheet_75 rfl rfl cl_X11_279 rfl (c_fill_3 m) ?_
    refine j_aload0 79 dX11_sheet_78 rfl ?_
    refine j_getR 82 dX11_sheet_79 rfl fl_X11_67 rfl rfl ?_
    refine j_iload1 83 dX11_sheet_82 rfl ?_
    refine j_iload2 84 dX11_sheet_83 rfl ?_
    refine j_iast 85 3 rfl (by decide) dX11_sheet_84 rfl rfl ?_
    refine j_aload0 86 dX11_sheet_85 rfl ?_
    refine j_getR 89 dX11_sheet_86 rfl fl_X11_71 rfl rfl ?_
    refine j_iload1 90 dX11_sheet_89 rfl ?_
    refine j_iload2 91 dX11_sheet_90 rfl ?_
    refine j_if_ne 98 94 dX11_sheet_91 rfl rfl (fun h91 => ?_) (fun h91 => absurd h91 hz)
    refine j_iload3 99 dX11_sheet_98 rfl ?_
    refine j_iast 100 3 rfl (by decide) dX11_sheet_99 rfl rfl ?_
    refine j_iconst 101 (v := 1) dX11_sheet_100 rfl rfl ?_
    refine j_iret dX11_sheet_101 rfl ?_
    exact ⟨rfl, rfl⟩
  · refine j_iload2 18 dX11_sheet_17 rfl ?_
    refine j_bipush 20 (v := 16) dX11_sheet_18 rfl rfl ?_
    refine j_cmp_eq 36 23 dX11_sheet_20 rfl rfl (fun h20 => ?_) (fun h20 => ?_)
    · refine j_iload2 37 dX11_sheet_36 rfl ?_
      refine j_if_eq 51 40 dX11_sheet_37 rfl rfl (fun h37 => absurd h37 hz) (fun h37 => ?_)
      refine j_iload3 41 dX11_sheet_40 rfl ?_
      refine j_if_ge 51 44 dX11_sheet_41 rfl rfl (fun h41 => ?_) (fun h41 => absurd h1 h41)
      refine j_iload2 52 dX11_sheet_51 rfl ?_
      refine j_if_eq 68 55 dX11_sheet_52 rfl rfl (fun h52 => absurd h52 hz) (fun h52 => ?_)
      refine j_iload3 56 dX11_sheet_55 rfl ?_
      refine j_bipush 58 (v := 40) dX11_sheet_56 rfl rfl ?_
      refine j_cmp_le 68 61 dX11_sheet_58 rfl rfl (fun h58 => ?_) (fun h58 => absurd h2 h58)
      refine j_aload0 69 dX11_sheet_68 rfl ?_
      refine j_getR 72 dX11_sheet_69 rfl fl_X11_64 rfl rfl ?_
      refine j_iload1 73 dX11_sheet_72 rfl ?_
      refine j_aald 74 3 rfl (by decide) dX11_sheet_73 rfl (by decide) ?_
      refine j_ref (b := 64) (by decide) ?_
      refine j_iconst 75 (v := 0) dX11_sheet_74 rfl rfl ?_
      refine j_st2v 78 dX11_sheet_75 rfl rfl cl_X11_279 rfl (c_fill_3 m) ?_
      refine j_aload0 79 dX11_sheet_78 rfl ?_
      refine j_getR 82 dX11_sheet_79 rfl fl_X11_67 rfl rfl ?_
      refine j_iload1 83 dX11_sheet_82 rfl ?_
      refine j_iload2 84 dX11_sheet_83 rfl ?_
      refine j_iast 85 3 rfl (by decide) dX11_sheet_84 rfl rfl ?_
      refine j_aload0 86 dX11_sheet_85 rfl ?_
      refine j_getR 89 dX11_sheet_86 rfl fl_X11_71 rfl rfl ?_
      refine j_iload1 90 dX11_sheet_89 rfl ?_
      refine j_iload2 91 dX11_sheet_90 rfl ?_
      refine j_if_ne 98 94 dX11_sheet_91 rfl rfl (fun h91 => ?_) (fun h91 => absurd h91 hz)
      refine j_iload3 99 dX11_sheet_98 rfl ?_
      refine j_iast 100 3 rfl (by decide) dX11_sheet_99 rfl rfl ?_
      refine j_iconst 101 (v := 1) dX11_sheet_100 rfl rfl ?_
      refine j_iret dX11_sheet_101 rfl ?_
      exact ⟨rfl, rfl⟩
    · refine j_iload2 24 dX11_sheet_23 rfl ?_
      refine j_bipush 26 (v := 32) dX11_sheet_24 rfl rfl ?_
      refine j_cmp_eq 36 29 dX11_sheet_26 rfl rfl (fun h26 => ?_) (fun h26 => ?_)
      · refine j_iload2 37 dX11_sheet_36 rfl ?_
        refine j_if_eq 51 40 dX11_sheet_37 rfl rfl (fun h37 => absurd h37 hz) (fun h37 => ?_)
        refine j_iload3 41 dX11_sheet_40 rfl ?_
        refine j_if_ge 51 44 dX11_sheet_41 rfl rfl (fun h41 => ?_) (fun h41 => absurd h1 h41)
        refine j_iload2 52 dX11_sheet_51 rfl ?_
        refine j_if_eq 68 55 dX11_sheet_52 rfl rfl (fun h52 => absurd h52 hz) (fun h52 => ?_)
        refine j_iload3 56 dX11_sheet_55 rfl ?_
        refine j_bipush 58 (v := 40) dX11_sheet_56 rfl rfl ?_
        refine j_cmp_le 68 61 dX11_sheet_58 rfl rfl (fun h58 => ?_) (fun h58 => absurd h2 h58)
        refine j_aload0 69 dX11_sheet_68 rfl ?_
        refine j_getR 72 dX11_sheet_69 rfl fl_X11_64 rfl rfl ?_
        refine j_iload1 73 dX11_sheet_72 rfl ?_
        refine j_aald 74 3 rfl (by decide) dX11_sheet_73 rfl (by decide) ?_
        refine j_ref (b := 64) (by decide) ?_
        refine j_iconst 75 (v := 0) dX11_sheet_74 rfl rfl ?_
        refine j_st2v 78 dX11_sheet_75 rfl rfl cl_X11_279 rfl (c_fill_3 m) ?_
        refine j_aload0 79 dX11_sheet_78 rfl ?_
        refine j_getR 82 dX11_sheet_79 rfl fl_X11_67 rfl rfl ?_
        refine j_iload1 83 dX11_sheet_82 rfl ?_
        refine j_iload2 84 dX11_sheet_83 rfl ?_
        refine j_iast 85 3 rfl (by decide) dX11_sheet_84 rfl rfl ?_
        refine j_aload0 86 dX11_sheet_85 rfl ?_
        refine j_getR 89 dX11_sheet_86 rfl fl_X11_71 rfl rfl ?_
        refine j_iload1 90 dX11_sheet_89 rfl ?_
        refine j_iload2 91 dX11_sheet_90 rfl ?_
        refine j_if_ne 98 94 dX11_sheet_91 rfl rfl (fun h91 => ?_) (fun h91 => absurd h91 hz)
        refine j_iload3 99 dX11_sheet_98 rfl ?_
        refine j_iast 100 3 rfl (by decide) dX11_sheet_99 rfl rfl ?_
        refine j_iconst 101 (v := 1) dX11_sheet_100 rfl rfl ?_
        refine j_iret dX11_sheet_101 rfl ?_
        exact ⟨rfl, rfl⟩
      · exact absurd hb (fun q => by rcases q with q | q | q | q; exact hz q; exact h14 q; exact h20 q; exact h26 q)
set_option maxRecDepth 100000 in
theorem lm_sheet {Q : Option Value → Mem → Prop} (s : Nat) (hs : s < 4) (b n : Int32) (m0 : Mem) (kk : Q (some (.int 1)) (upR m0 79 (fun j => if 40 * s ≤ j ∧ j < 40 * s + 40 then (fun _ => 0) (j - 40 * s) else m0 79 j))) : ∀ (k i : Nat), i + k = 40 → J l g 2 mX12_sheet 90 [some (rf g 68), some (.int (nI s)), some (.int b), some (.int n), some (.int (nI i))] [] (upR m0 79 (fun j => if 40 * s ≤ j ∧ j < 40 * s + i then (fun _ => 0) (j - 40 * s) else m0 79 j)) Q := by
  intro k
  induction k with
  | zero =>
    intro i e
    have e : i = 40 := by omega
    subst e
    refine j_iload4 92 dX12_sheet_90 rfl ?_
    refine j_bipush 94 (v := 40) dX12_sheet_92 rfl rfl ?_
    refine j_cmp_ge 116 97 dX12_sheet_94 rfl rfl (fun h94 => ?_) (fun h94 => absurd (by decide) h94)
    refine j_iconst 117 (v := 1) dX12_sheet_116 rfl rfl ?_
    refine j_iret dX12_sheet_117 rfl ?_
    exact kk
  | succ k ih =>
    intro i e
    have e2 : nI i + 1 = nI (i + 1) := nI_1 i
    refine j_iload4 92 dX12_sheet_90 rfl ?_
    refine j_bipush 94 (v := 40) dX12_sheet_92 rfl rfl ?_
    refine j_cmp_ge 116 97 dX12_sheet_94 rfl rfl (fun h94 => absurd h94 (nI_ge (a := i) (b := 40) (by omega) (by decide))) (fun h94 => ?_)
    refine j_aload0 98 dX12_sheet_97 rfl ?_
    refine j_getR 101 dX12_sheet_98 rfl fl_X12_40 rfl rfl ?_
    refine j_bipush 103 (v := nI 40) dX12_sheet_101 rfl rfl ?_
    refine j_iload1 104 dX12_sheet_103 rfl ?_
    refine j_imulN 105 dX12_sheet_104 rfl ?_
    refine j_iload4 107 dX12_sheet_105 rfl ?_
    refine j_iaddN 108 dX12_sheet_107 rfl ?_
    refine j_iconst 109 (v := 0) dX12_sheet_108 rfl rfl ?_
    refine j_iast 110 (40 * s + i) rfl (show 40 * s + i < 160 by omega) dX12_sheet_109 rfl rfl ?_
    refine j_iinc4 113 (1) dX12_sheet_110 rfl rfl rfl rfl ?_
    refine j_goto 90 dX12_sheet_113 rfl ?_
    rw [e2]
    refine j_mem (upR_nx2 (b0 := 40 * s) (f := fun _ => 0) (h := m0 79)) ?_
    exact ih (i + 1) (by omega)
set_option maxRecDepth 100000 in
theorem p_sheetZ (m : Mem) (s : Nat) (hs : s < 4) (n : Int32) : JM l g 2 mX12_sheet [rf g 68, .int (nI s), .int 0, .int n] m (RF (some (.int 1)) (upR (up2 (up2 m 77 s 0) 78 s 0) 79 (zr2 m s))) := by
  refine JM_of (ls := [some (rf g 68), some (.int (nI s)), some (.int 0), some (.int n), none]) pn_X12 rfl rfl ?_
  have z2 : zr2 m s = fun j => if 40 * s ≤ j ∧ j < 40 * s + 40 then (fun _ => 0) (j - 40 * s) else up2 (up2 m 77 s 0) 78 s 0 79 j := by rw [up2_r (by decide), up2_r (by decide)]
  refine j_iload1 1 dX12_sheet_0 rfl ?_
  refine j_st1f 4 dX12_sheet_1 rfl rfl cl_X12_243 rfl (c_misSheet m _) ?_
  refine j_if_eq_bz 29 7 dX12_sheet_4 rfl rfl (fun h4 => absurd ((rngN 3 (by decide)).mpr ⟨s, by omega, rfl⟩) h4) (fun h4 => ?_)
  refine j_iload2 8 dX12_sheet_7 rfl ?_
  refine j_if_eq 35 11 dX12_sheet_8 rfl rfl (fun h8 => ?_) (fun h8 => absurd (by decide) h8)
  refine j_iload2 36 dX12_sheet_35 rfl ?_
  refine j_if_eq 49 39 dX12_sheet_36 rfl rfl (fun h36 => ?_) (fun h36 => absurd (by decide) h36)
  refine j_iload2 50 dX12_sheet_49 rfl ?_
  refine j_if_eq 65 53 dX12_sheet_50 rfl rfl (fun h50 => ?_) (fun h50 => absurd (by decide) h50)
  refine j_aload0 66 dX12_sheet_65 rfl ?_
  refine j_getR 69 dX12_sheet_66 rfl fl_X12_34 rfl rfl ?_
  refine j_iload1 70 dX12_sheet_69 rfl ?_
  refine j_iload2 71 dX12_sheet_70 rfl ?_
  refine j_iast 72 _ rfl hs dX12_sheet_71 rfl rfl ?_
  refine j_aload0 73 dX12_sheet_72 rfl ?_
  refine j_getR 76 dX12_sheet_73 rfl fl_X12_37 rfl rfl ?_
  refine j_iload1 77 dX12_sheet_76 rfl ?_
  refine j_iload2 78 dX12_sheet_77 rfl ?_
  refine j_if_ne 85 81 dX12_sheet_78 rfl rfl (fun h78 => absurd h78 (fun q => q rfl)) (fun h78 => ?_)
  refine j_iconst 82 (v := 0) dX12_sheet_81 rfl rfl ?_
  refine j_goto 86 dX12_sheet_82 rfl ?_
  refine j_iast 87 _ rfl hs dX12_sheet_86 rfl rfl ?_
  refine j_iconst 88 (v := 0) dX12_sheet_87 rfl rfl ?_
  refine j_istore4 90 dX12_sheet_88 rfl rfl rfl ?_
  refine j_mem (upR_n0 (m := up2 (up2 m 77 s 0) 78 s 0) (c := 79) (f := fun j => if 40 * s ≤ j ∧ j < 40 * s + 0 then (fun _ => 0) (j - 40 * s) else up2 (up2 m 77 s 0) 78 s 0 79 j) (fun j => if_neg (by omega))).symm ?_
  exact lm_sheet s hs 0 n (up2 (up2 m 77 s 0) 78 s 0) ⟨rfl, by rw [z2]⟩ 40 0 rfl
set_option maxRecDepth 100000 in
theorem p_sheetN (m : Mem) (s : Nat) (hs : s < 4) (b n : Int32) (hz : ¬ b = 0) (hb : cB b) (h1 : 0 ≤ n) (h2 : n ≤ 40) : JM l g 2 mX12_sheet [rf g 68, .int (nI s), .int b, .int n] m (RF (some (.int 1)) (upR (up2 (up2 m 77 s b) 78 s n) 79 (zr2 m s))) := by
  refine JM_of (ls := [some (rf g 68), some (.int (nI s)), some (.int b), some (.int n), none]) pn_X12 rfl rfl ?_
  have z2 : zr2 m s = fun j => if 40 * s ≤ j ∧ j < 40 * s + 40 then (fun _ => 0) (j - 40 * s) else up2 (up2 m 77 s b) 78 s n 79 j := by rw [up2_r (by decide), up2_r (by decide)]
  refine j_iload1 1 dX12_sheet_0 rfl ?_
  refine j_st1f 4 dX12_sheet_1 rfl rfl cl_X12_243 rfl (c_misSheet m _) ?_
  refine j_if_eq_bz 29 7 dX12_sheet_4 rfl rfl (fun h4 => absurd ((rngN 3 (by decide)).mpr ⟨s, by omega, rfl⟩) h4) (fun h4 => ?_)
  refine j_iload2 8 dX12_sheet_7 rfl ?_
  refine j_if_eq 35 11 dX12_sheet_8 rfl rfl (fun h8 => absurd h8 hz) (fun h8 => ?_)
  refine j_iload2 12 dX12_sheet_11 rfl ?_
  refine j_bipush 14 (v := 8) dX12_sheet_12 rfl rfl ?_
  refine j_cmp_eq 35 17 dX12_sheet_14 rfl rfl (fun h14 => ?_) (fun h14 => ?_)
  · refine j_iload2 36 dX12_sheet_35 rfl ?_
    refine j_if_eq 49 39 dX12_sheet_36 rfl rfl (fun h36 => absurd h36 hz) (fun h36 => ?_)
    refine j_iload3 40 dX12_sheet_39 rfl ?_
    refine j_if_ge 49 43 dX12_sheet_40 rfl rfl (fun h40 => ?_) (fun h40 => absurd h1 h40)
    refine j_iload2 50 dX12_sheet_49 rfl ?_
    refine j_if_eq 65 53 dX12_sheet_50 rfl rfl (fun h50 => absurd h50 hz) (fun h50 => ?_)
    refine j_iload3 54 dX12_sheet_53 rfl ?_
    refine j_bipush 56 (v := 40) dX12_sheet_54 rfl rfl ?_
    refine j_cmp_le 65 59 dX12_sheet_56 rfl rfl (fun h56 => ?_) (fun h56 => absurd h2 h56)
    refine j_aload0 66 dX12_sheet_65 rfl ?_
    refine j_getR 69 dX12_sheet_66 rfl fl_X12_34 rfl rfl ?_
    refine j_iload1 70 dX12_sheet_69 rfl ?_
    refine j_iload2 71 dX12_sheet_70 rfl ?_
    refine j_iast 72 _ rfl hs dX12_sheet_71 rfl rfl ?_
    refine j_aload0 73 dX12_sheet_72 rfl ?_
    refine j_getR 76 dX12_sheet_73 rfl fl_X12_37 rfl rfl ?_
    refine j_iload1 77 dX12_sheet_76 rfl ?_
    refine j_iload2 78 dX12_sheet_77 rfl ?_
    refine j_if_ne 85 81 dX12_sheet_78 rfl rfl (fun h78 => ?_) (fun h78 => absurd h78 hz)
    refine j_iload3 86 dX12_sheet_85 rfl ?_
    refine j_iast 87 _ rfl hs dX12_sheet_86 rfl rfl ?_
    refine j_iconst 88 (v := 0) dX12_sheet_87 rfl rfl ?_
    refine j_istore4 90 dX12_sheet_88 rfl rfl rfl ?_
    refine j_mem (upR_n0 (m := up2 (up2 m 77 s b) 78 s n) (c := 79) (f := fun j => if 40 * s ≤ j ∧ j < 40 * s + 0 then (fun _ => 0) (j - 40 * s) else up2 (up2 m 77 s b) 78 s n 79 j) (fun j => if_neg (by omega))).symm ?_
    exact lm_sheet s hs b n (up2 (up2 m 77 s b) 78 s n) ⟨rfl, by rw [z2]⟩ 40 0 rfl
  · refine j_iload2 18 dX12_sheet_17 rfl ?_
    refine j_bipush 20 (v := 16) dX12_sheet_18 rfl rfl ?_
    refine j_cmp_eq 35 23 dX12_sheet_20 rfl rfl (fun h20 => ?_) (fun h20 => ?_)
    · refine j_iload2 36 dX12_sheet_35 rfl ?_
      refine j_if_eq 49 39 dX12_sheet_36 rfl rfl (fun h36 => absurd h36 hz) (fun h36 => ?_)
      refine j_iload3 40 dX12_sheet_39 rfl ?_
      refine j_if_ge 49 43 dX12_sheet_40 rfl rfl (fun h40 => ?_) (fun h40 => absurd h1 h40)
      refine j_iload2 50 dX12_sheet_49 rfl ?_
      refine j_if_eq 65 53 dX12_sheet_50 rfl rfl (fun h50 => absurd h50 hz) (fun h50 => ?_)
      refine j_iload3 54 dX12_sheet_53 rfl ?_
      refine j_bipush 56 (v := 40) dX12_sheet_54 rfl rfl ?_
      refine j_cmp_le 65 59 dX12_sheet_56 rfl rfl (fun h56 => ?_) (fun h56 => absurd h2 h56)
      refine j_aload0 66 dX12_sheet_65 rfl ?_
      refine j_getR 69 dX12_sheet_66 rfl fl_X12_34 rfl rfl ?_
      refine j_iload1 70 dX12_sheet_69 rfl ?_
      refine j_iload2 71 dX12_sheet_70 rfl ?_
      refine j_iast 72 _ rfl hs dX12_sheet_71 rfl rfl ?_
      refine j_aload0 73 dX12_sheet_72 rfl ?_
      refine j_getR 76 dX12_sheet_73 rfl fl_X12_37 rfl rfl ?_
      refine j_iload1 77 dX12_sheet_76 rfl ?_
      refine j_iload2 78 dX12_sheet_77 rfl ?_
      refine j_if_ne 85 81 dX12_sheet_78 rfl rfl (fun h78 => ?_) (fun h78 => absurd h78 hz)
      refine j_iload3 86 dX12_sheet_85 rfl ?_
      refine j_iast 87 _ rfl hs dX12_sheet_86 rfl rfl ?_
      refine j_iconst 88 (v := 0) dX12_sheet_87 rfl rfl ?_
      refine j_istore4 90 dX12_sheet_88 rfl rfl rfl ?_
      refine j_mem (upR_n0 (m := up2 (up2 m 77 s b) 78 s n) (c := 79) (f := fun j => if 40 * s ≤ j ∧ j < 40 * s + 0 then (fun _ => 0) (j - 40 * s) else up2 (up2 m 77 s b) 78 s n 79 j) (fun j => if_neg (by omega))).symm ?_
      exact lm_sheet s hs b n (up2 (up2 m 77 s b) 78 s n) ⟨rfl, by rw [z2]⟩ 40 0 rfl
    · refine j_iload2 24 dX12_sheet_23 rfl ?_
      refine j_bipush 26 (v := 32) dX12_sheet_24 rfl rfl ?_
      refine j_cmp_eq 35 29 dX12_sheet_26 rfl rfl (fun h26 => ?_) (fun h26 => ?_)
      · refine j_iload2 36 dX12_sheet_35 rfl ?_
        refine j_if_eq 49 39 dX12_sheet_36 rfl rfl (fun h36 => absurd h36 hz) (fun h36 => ?_)
        refine j_iload3 40 dX12_sheet_39 rfl ?_
        refine j_if_ge 49 43 dX12_sheet_40 rfl rfl (fun h40 => ?_) (fun h40 => absurd h1 h40)
        refine j_iload2 50 dX12_sheet_49 rfl ?_
        refine j_if_eq 65 53 dX12_sheet_50 rfl rfl (fun h50 => absurd h50 hz) (fun h50 => ?_)
        refine j_iload3 54 dX12_sheet_53 rfl ?_
        refine j_bipush 56 (v := 40) dX12_sheet_54 rfl rfl ?_
        refine j_cmp_le 65 59 dX12_sheet_56 rfl rfl (fun h56 => ?_) (fun h56 => absurd h2 h56)
        refine j_aload0 66 dX12_sheet_65 rfl ?_
        refine j_getR 69 dX12_sheet_66 rfl fl_X12_34 rfl rfl ?_
        refine j_iload1 70 dX12_sheet_69 rfl ?_
        refine j_iload2 71 dX12_sheet_70 rfl ?_
        refine j_iast 72 _ rfl hs dX12_sheet_71 rfl rfl ?_
        refine j_aload0 73 dX12_sheet_72 rfl ?_
        refine j_getR 76 dX12_sheet_73 rfl fl_X12_37 rfl rfl ?_
        refine j_iload1 77 dX12_sheet_76 rfl ?_
        refine j_iload2 78 dX12_sheet_77 rfl ?_
        refine j_if_ne 85 81 dX12_sheet_78 rfl rfl (fun h78 => ?_) (fun h78 => absurd h78 hz)
        refine j_iload3 86 dX12_sheet_85 rfl ?_
        refine j_iast 87 _ rfl hs dX12_sheet_86 rfl rfl ?_
        refine j_iconst 88 (v := 0) dX12_sheet_87 rfl rfl ?_
        refine j_istore4 90 dX12_sheet_88 rfl rfl rfl ?_
        refine j_mem (upR_n0 (m := up2 (up2 m 77 s b) 78 s n) (c := 79) (f := fun j => if 40 * s ≤ j ∧ j < 40 * s + 0 then (fun _ => 0) (j - 40 * s) else up2 (up2 m 77 s b) 78 s n 79 j) (fun j => if_neg (by omega))).symm ?_
        exact lm_sheet s hs b n (up2 (up2 m 77 s b) 78 s n) ⟨rfl, by rw [z2]⟩ 40 0 rfl
      · exact absurd hb (fun q => by rcases q with q | q | q | q; exact hz q; exact h14 q; exact h20 q; exact h26 q)
set_option maxRecDepth 100000 in
theorem e_sheet0 (m : Mem) (s b n : Int32) (c : ¬ ((0 ≤ s ∧ s ≤ 3) ∧ cB b)) : JM l g 2 mX11_sheet [rf g 0, .int s, .int b, .int n] m (RF (some (.int (-1000000001))) (errC 1 m)) := by
  refine JM_of (ls := [some (rf g 0), some (.int s), some (.int b), some (.int n)]) pn_X11 rfl rfl ?_
  refine j_iload1 1 dX11_sheet_0 rfl ?_
  refine j_st1f 4 dX11_sheet_1 rfl rfl cl_X11_230 rfl (c_isSheet m s) ?_
  refine j_if_eq_bz 29 7 dX11_sheet_4 rfl rfl (fun h4 => ?_) (fun h4 => ?_)
  · refine j_aload0 30 dX11_sheet_29 rfl ?_
    refine j_ldc 32 dX11_sheet_30 rfl kc_X11_81 ?_
    refine j_vi1f 35 dX11_sheet_32 rfl rfl cl_X11_82 rfl rfl (c_err1 m) ?_
    refine j_iret dX11_sheet_35 rfl ?_
    exact ⟨rfl, rfl⟩
  · refine j_iload2 8 dX11_sheet_7 rfl ?_
    refine j_if_eq 36 11 dX11_sheet_8 rfl rfl (fun h8 => ?_) (fun h8 => ?_)
    · first | exact absurd (show (0 ≤ s ∧ s ≤ 3) ∧ cB b from And.intro h4 (Or.inr (Or.inr (Or.inr h26)))) c | exact absurd (show (0 ≤ s ∧ s ≤ 3) ∧ cB b from And.intro h4 (Or.inr (Or.inr (Or.inl h20)))) c | exact absurd (show (0 ≤ s ∧ s ≤ 3) ∧ cB b from And.intro h4 (Or.inr (Or.inl h14))) c | exact absurd (show (0 ≤ s ∧ s ≤ 3) ∧ cB b from And.intro h4 (Or.inl h8)) c
    · refine j_iload2 12 dX11_sheet_11 rfl ?_
      refine j_bipush 14 (v := 8) dX11_sheet_12 rfl rfl ?_
      refine j_cmp_eq 36 17 dX11_sheet_14 rfl rfl (fun h14 => ?_) (fun h14 => ?_)
      · first | exact absurd (show (0 ≤ s ∧ s ≤ 3) ∧ cB b from And.intro h4 (Or.inr (Or.inr (Or.inr h26)))) c | exact absurd (show (0 ≤ s ∧ s ≤ 3) ∧ cB b from And.intro h4 (Or.inr (Or.inr (Or.inl h20)))) c | exact absurd (show (0 ≤ s ∧ s ≤ 3) ∧ cB b from And.intro h4 (Or.inr (Or.inl h14))) c | exact absurd (show (0 ≤ s ∧ s ≤ 3) ∧ cB b from And.intro h4 (Or.inl h8)) c
      · refine j_iload2 18 dX11_sheet_17 rfl ?_
        refine j_bipush 20 (v := 16) dX11_sheet_18 rfl rfl ?_
        refine j_cmp_eq 36 23 dX11_sheet_20 rfl rfl (fun h20 => ?_) (fun h20 => ?_)
        · first | exact absurd (show (0 ≤ s ∧ s ≤ 3) ∧ cB b from And.intro h4 (Or.inr (Or.inr (Or.inr h26)))) c | exact absurd (show (0 ≤ s ∧ s ≤ 3) ∧ cB b from And.intro h4 (Or.inr (Or.inr (Or.inl h20)))) c | exact absurd (show (0 ≤ s ∧ s ≤ 3) ∧ cB b from And.intro h4 (Or.inr (Or.inl h14))) c | exact absurd (show (0 ≤ s ∧ s ≤ 3) ∧ cB b from And.intro h4 (Or.inl h8)) c
        · refine j_iload2 24 dX11_sheet_23 rfl ?_
          refine j_bipush 26 (v := 32) dX11_sheet_24 rfl rfl ?_
          refine j_cmp_eq 36 29 dX11_sheet_26 rfl rfl (fun h26 => ?_) (fun h26 => ?_)
          · first | exact absurd (show (0 ≤ s ∧ s ≤ 3) ∧ cB b from And.intro h4 (Or.inr (Or.inr (Or.inr h26)))) c | exact absurd (show (0 ≤ s ∧ s ≤ 3) ∧ cB b from And.intro h4 (Or.inr (Or.inr (Or.inl h20)))) c | exact absurd (show (0 ≤ s ∧ s ≤ 3) ∧ cB b from And.intro h4 (Or.inr (Or.inl h14))) c | exact absurd (show (0 ≤ s ∧ s ≤ 3) ∧ cB b from And.intro h4 (Or.inl h8)) c
          · refine j_aload0 30 dX11_sheet_29 rfl ?_
            refine j_ldc 32 dX11_sheet_30 rfl kc_X11_81 ?_
            refine j_vi1f 35 dX11_sheet_32 rfl rfl cl_X11_82 rfl rfl (c_err1 m) ?_
            refine j_iret dX11_sheet_35 rfl ?_
            exact ⟨rfl, rfl⟩
set_option maxRecDepth 100000 in
theorem f_sheet0 (m : Mem) (s b n : Int32) (c : ¬ ((0 ≤ s ∧ s ≤ 3) ∧ cB b)) : JM l g 2 mX12_sheet [rf g 68, .int s, .int b, .int n] m (RF (some (.int (-1000000001))) (errM 1 m)) := by
  refine JM_of (ls := [some (rf g 68), some (.int s), some (.int b), some (.int n), none]) pn_X12 rfl rfl ?_
  refine j_iload1 1 dX12_sheet_0 rfl ?_
  refine j_st1f 4 dX12_sheet_1 rfl rfl cl_X12_243 rfl (c_misSheet m s) ?_
  refine j_if_eq_bz 29 7 dX12_sheet_4 rfl rfl (fun h4 => ?_) (fun h4 => ?_)
  · refine j_aload0 30 dX12_sheet_29 rfl ?_
    refine j_iconst 31 (v := 1) dX12_sheet_30 rfl rfl ?_
    refine j_vi1f 34 dX12_sheet_31 rfl rfl cl_X12_126 rfl rfl (c_finds1 m) ?_
    refine j_iret dX12_sheet_34 rfl ?_
    exact ⟨rfl, rfl⟩
  · refine j_iload2 8 dX12_sheet_7 rfl ?_
    refine j_if_eq 35 11 dX12_sheet_8 rfl rfl (fun h8 => ?_) (fun h8 => ?_)
    · first | exact absurd (show (0 ≤ s ∧ s ≤ 3) ∧ cB b from And.intro h4 (Or.inr (Or.inr (Or.inr h26)))) c | exact absurd (show (0 ≤ s ∧ s ≤ 3) ∧ cB b from And.intro h4 (Or.inr (Or.inr (Or.inl h20)))) c | exact absurd (show (0 ≤ s ∧ s ≤ 3) ∧ cB b from And.intro h4 (Or.inr (Or.inl h14))) c | exact absurd (show (0 ≤ s ∧ s ≤ 3) ∧ cB b from And.intro h4 (Or.inl h8)) c
    · refine j_iload2 12 dX12_sheet_11 rfl ?_
      refine j_bipush 14 (v := 8) dX12_sheet_12 rfl rfl ?_
      refine j_cmp_eq 35 17 dX12_sheet_14 rfl rfl (fun h14 => ?_) (fun h14 => ?_)
      · first | exact absurd (show (0 ≤ s ∧ s ≤ 3) ∧ cB b from And.intro h4 (Or.inr (Or.inr (Or.inr h26)))) c | exact absurd (show (0 ≤ s ∧ s ≤ 3) ∧ cB b from And.intro h4 (Or.inr (Or.inr (Or.inl h20)))) c | exact absurd (show (0 ≤ s ∧ s ≤ 3) ∧ cB b from And.intro h4 (Or.inr (Or.inl h14))) c | exact absurd (show (0 ≤ s ∧ s ≤ 3) ∧ cB b from And.intro h4 (Or.inl h8)) c
      · refine j_iload2 18 dX12_sheet_17 rfl ?_
        refine j_bipush 20 (v := 16) dX12_sheet_18 rfl rfl ?_
        refine j_cmp_eq 35 23 dX12_sheet_20 rfl rfl (fun h20 => ?_) (fun h20 => ?_)
        · first | exact absurd (show (0 ≤ s ∧ s ≤ 3) ∧ cB b from And.intro h4 (Or.inr (Or.inr (Or.inr h26)))) c | exact absurd (show (0 ≤ s ∧ s ≤ 3) ∧ cB b from And.intro h4 (Or.inr (Or.inr (Or.inl h20)))) c | exact absurd (show (0 ≤ s ∧ s ≤ 3) ∧ cB b from And.intro h4 (Or.inr (Or.inl h14))) c | exact absurd (show (0 ≤ s ∧ s ≤ 3) ∧ cB b from And.intro h4 (Or.inl h8)) c
        · refine j_iload2 24 dX12_sheet_23 rfl ?_
          refine j_bipush 26 (v := 32) dX12_sheet_24 rfl rfl ?_
          refine j_cmp_eq 35 29 dX12_sheet_26 rfl rfl (fun h26 => ?_) (fun h26 => ?_)
          · first | exact absurd (show (0 ≤ s ∧ s ≤ 3) ∧ cB b from And.intro h4 (Or.inr (Or.inr (Or.inr h26)))) c | exact absurd (show (0 ≤ s ∧ s ≤ 3) ∧ cB b from And.intro h4 (Or.inr (Or.inr (Or.inl h20)))) c | exact absurd (show (0 ≤ s ∧ s ≤ 3) ∧ cB b from And.intro h4 (Or.inr (Or.inl h14))) c | exact absurd (show (0 ≤ s ∧ s ≤ 3) ∧ cB b from And.intro h4 (Or.inl h8)) c
          · refine j_aload0 30 dX12_sheet_29 rfl ?_
            refine j_iconst 31 (v := 1) dX12_sheet_30 rfl rfl ?_
            refine j_vi1f 34 dX12_sheet_31 rfl rfl cl_X12_126 rfl rfl (c_finds1 m) ?_
            refine j_iret dX12_sheet_34 rfl ?_
            exact ⟨rfl, rfl⟩
set_option maxRecDepth 100000 in
theorem e_sheet3 (m : Mem) (s b n : Int32) (c : 0 ≤ s ∧ s ≤ 3) (hb : cB b) (hz : ¬ b = 0) (hn : ¬ 0 ≤ n) : JM l g 2 mX11_sheet [rf g 0, .int s, .int b, .int n] m (RF (some (.int (-1000000003))) (errC 3 m)) := by
  refine JM_of (ls := [some (rf g 0), some (.int s), some (.int b), some (.int n)]) pn_X11 rfl rfl ?_
  refine j_iload1 1 dX11_sheet_0 rfl ?_
  refine j_st1f 4 dX11_sheet_1 rfl rfl cl_X11_230 rfl (c_isSheet m s) ?_
  refine j_if_eq_bz 29 7 dX11_sheet_4 rfl rfl (fun h4 => absurd c h4) (fun h4 => ?_)
  refine j_iload2 8 dX11_sheet_7 rfl ?_
  refine j_if_eq 36 11 dX11_sheet_8 rfl rfl (fun h8 => absurd h8 hz) (fun h8 => ?_)
  refine j_iload2 12 dX11_sheet_11 rfl ?_
  refine j_bipush 14 (v := 8) dX11_sheet_12 rfl rfl ?_
  refine j_cmp_eq 36 17 dX11_sheet_14 rfl rfl (fun h14 => ?_) (fun h14 => ?_)
  · refine j_iload2 37 dX11_sheet_36 rfl ?_
    refine j_if_eq 51 40 dX11_sheet_37 rfl rfl (fun h37 => absurd h37 hz) (fun h37 => ?_)
    refine j_iload3 41 dX11_sheet_40 rfl ?_
    refine j_if_ge 51 44 dX11_sheet_41 rfl rfl (fun h41 => absurd h41 hn) (fun h41 => ?_)
    refine j_aload0 45 dX11_sheet_44 rfl ?_
    refine j_ldc 47 dX11_sheet_45 rfl kc_X11_169 ?_
    refine j_vi1f 50 dX11_sheet_47 rfl rfl cl_X11_82 rfl rfl (c_err3 m) ?_
    refine j_iret dX11_sheet_50 rfl ?_
    exact ⟨rfl, rfl⟩
  · refine j_iload2 18 dX11_sheet_17 rfl ?_
    refine j_bipush 20 (v := 16) dX11_sheet_18 rfl rfl ?_
    refine j_cmp_eq 36 23 dX11_sheet_20 rfl rfl (fun h20 => ?_) (fun h20 => ?_)
    · refine j_iload2 37 dX11_sheet_36 rfl ?_
      refine j_if_eq 51 40 dX11_sheet_37 rfl rfl (fun h37 => absurd h37 hz) (fun h37 => ?_)
      refine j_iload3 41 dX11_sheet_40 rfl ?_
      refine j_if_ge 51 44 dX11_sheet_41 rfl rfl (fun h41 => absurd h41 hn) (fun h41 => ?_)
      refine j_aload0 45 dX11_sheet_44 rfl ?_
      refine j_ldc 47 dX11_sheet_45 rfl kc_X11_169 ?_
      refine j_vi1f 50 dX11_sheet_47 rfl rfl cl_X11_82 rfl rfl (c_err3 m) ?_
      refine j_iret dX11_sheet_50 rfl ?_
      exact ⟨rfl, rfl⟩
    · refine j_iload2 24 dX11_sheet_23 rfl ?_
      refine j_bipush 26 (v := 32) dX11_sheet_24 rfl rfl ?_
      refine j_cmp_eq 36 29 dX11_sheet_26 rfl rfl (fun h26 => ?_) (fun h26 => ?_)
      · refine j_iload2 37 dX11_sheet_36 rfl ?_
        refine j_if_eq 51 40 dX11_sheet_37 rfl rfl (fun h37 => absurd h37 hz) (fun h37 => ?_)
        refine j_iload3 41 dX11_sheet_40 rfl ?_
        refine j_if_ge 51 44 dX11_sheet_41 rfl rfl (fun h41 => absurd h41 hn) (fun h41 => ?_)
        refine j_aload0 45 dX11_sheet_44 rfl ?_
        refine j_ldc 47 dX11_sheet_45 rfl kc_X11_169 ?_
        refine j_vi1f 50 dX11_sheet_47 rfl rfl cl_X11_82 rfl rfl (c_err3 m) ?_
        refine j_iret dX11_sheet_50 rfl ?_
        exact ⟨rfl, rfl⟩
      · exact absurd hb (fun q => by rcases q with q | q | q | q; exact hz q; exact h14 q; exact h20 q; exact h26 q)
set_option maxRecDepth 100000 in
theorem f_sheet3 (m : Mem) (s b n : Int32) (c : 0 ≤ s ∧ s ≤ 3) (hb : cB b) (hz : ¬ b = 0) (hn : ¬ 0 ≤ n) : JM l g 2 mX12_sheet [rf g 68, .int s, .int b, .int n] m (RF (some (.int (-1000000003))) (errM 3 m)) := by
  refine JM_of (ls := [some (rf g 68), some (.int s), some (.int b), some (.int n), none]) pn_X12 rfl rfl ?_
  refine j_iload1 1 dX12_sheet_0 rfl ?_
  refine j_st1f 4 dX12_sheet_1 rfl rfl cl_X12_243 rfl (c_misSheet m s) ?_
  refine j_if_eq_bz 29 7 dX12_sheet_4 rfl rfl (fun h4 => absurd c h4) (fun h4 => ?_)
  refine j_iload2 8 dX12_sheet_7 rfl ?_
  refine j_if_eq 35 11 dX12_sheet_8 rfl rfl (fun h8 => absurd h8 hz) (fun h8 => ?_)
  refine j_iload2 12 dX12_sheet_11 rfl ?_
  refine j_bipush 14 (v := 8) dX12_sheet_12 rfl rfl ?_
  refine j_cmp_eq 35 17 dX12_sheet_14 rfl rfl (fun h14 => ?_) (fun h14 => ?_)
  · refine j_iload2 36 dX12_sheet_35 rfl ?_
    refine j_if_eq 49 39 dX12_sheet_36 rfl rfl (fun h36 => absurd h36 hz) (fun h36 => ?_)
    refine j_iload3 40 dX12_sheet_39 rfl ?_
    refine j_if_ge 49 43 dX12_sheet_40 rfl rfl (fun h40 => absurd h40 hn) (fun h40 => ?_)
    refine j_aload0 44 dX12_sheet_43 rfl ?_
    refine j_iconst 45 (v := 3) dX12_sheet_44 rfl rfl ?_
    refine j_vi1f 48 dX12_sheet_45 rfl rfl cl_X12_126 rfl rfl (c_finds3 m) ?_
    refine j_iret dX12_sheet_48 rfl ?_
    exact ⟨rfl, rfl⟩
  · refine j_iload2 18 dX12_sheet_17 rfl ?_
    refine j_bipush 20 (v := 16) dX12_sheet_18 rfl rfl ?_
    refine j_cmp_eq 35 23 dX12_sheet_20 rfl rfl (fun h20 => ?_) (fun h20 => ?_)
    · refine j_iload2 36 dX12_sheet_35 rfl ?_
      refine j_if_eq 49 39 dX12_sheet_36 rfl rfl (fun h36 => absurd h36 hz) (fun h36 => ?_)
      refine j_iload3 40 dX12_sheet_39 rfl ?_
      refine j_if_ge 49 43 dX12_sheet_40 rfl rfl (fun h40 => absurd h40 hn) (fun h40 => ?_)
      refine j_aload0 44 dX12_sheet_43 rfl ?_
      refine j_iconst 45 (v := 3) dX12_sheet_44 rfl rfl ?_
      refine j_vi1f 48 dX12_sheet_45 rfl rfl cl_X12_126 rfl rfl (c_finds3 m) ?_
      refine j_iret dX12_sheet_48 rfl ?_
      exact ⟨rfl, rfl⟩
    · refine j_iload2 24 dX12_sheet_23 rfl ?_
      refine j_bipush 26 (v := 32) dX12_sheet_24 rfl rfl ?_
      refine j_cmp_eq 35 29 dX12_sheet_26 rfl rfl (fun h26 => ?_) (fun h26 => ?_)
      · refine j_iload2 36 dX12_sheet_35 rfl ?_
        refine j_if_eq 49 39 dX12_sheet_36 rfl rfl (fun h36 => absurd h36 hz) (fun h36 => ?_)
        refine j_iload3 40 dX12_sheet_39 rfl ?_
        refine j_if_ge 49 43 dX12_sheet_40 rfl rfl (fun h40 => absurd h40 hn) (fun h40 => ?_)
        refine j_aload0 44 dX12_sheet_43 rfl ?_
        refine j_iconst 45 (v := 3) dX12_sheet_44 rfl rfl ?_
        refine j_vi1f 48 dX12_sheet_45 rfl rfl cl_X12_126 rfl rfl (c_finds3 m) ?_
        refine j_iret dX12_sheet_48 rfl ?_
        exact ⟨rfl, rfl⟩
      · exact absurd hb (fun q => by rcases q with q | q | q | q; exact hz q; exact h14 q; exact h20 q; exact h26 q)
set_option maxRecDepth 100000 in
theorem e_sheet1 (m : Mem) (s b n : Int32) (c : 0 ≤ s ∧ s ≤ 3) (hb : cB b) (hz : ¬ b = 0) (hn : 0 ≤ n) (h2 : ¬ n ≤ 40) : JM l g 2 mX11_sheet [rf g 0, .int s, .int b, .int n] m (RF (some (.int (-1000000001))) (errC 1 m)) := by
  refine JM_of (ls := [some (rf g 0), some (.int s), some (.int b), some (.int n)]) pn_X11 rfl rfl ?_
  refine j_iload1 1 dX11_sheet_0 rfl ?_
  refine j_st1f 4 dX11_sheet_1 rfl rfl cl_X11_230 rfl (c_isSheet m s) ?_
  refine j_if_eq_bz 29 7 dX11_sheet_4 rfl rfl (fun h4 => absurd c h4) (fun h4 => ?_)
  refine j_iload2 8 dX11_sheet_7 rfl ?_
  refine j_if_eq 36 11 dX11_sheet_8 rfl rfl (fun h8 => absurd h8 hz) (fun h8 => ?_)
  refine j_iload2 12 dX11_sheet_11 rfl ?_
  refine j_bipush 14 (v := 8) dX11_sheet_12 rfl rfl ?_
  refine j_cmp_eq 36 17 dX11_sheet_14 rfl rfl (fun h14 => ?_) (fun h14 => ?_)
  · refine j_iload2 37 dX11_sheet_36 rfl ?_
    refine j_if_eq 51 40 dX11_sheet_37 rfl rfl (fun h37 => absurd h37 hz) (fun h37 => ?_)
    refine j_iload3 41 dX11_sheet_40 rfl ?_
    refine j_if_ge 51 44 dX11_sheet_41 rfl rfl (fun h41 => ?_) (fun h41 => absurd hn h41)
    refine j_iload2 52 dX11_sheet_51 rfl ?_
    refine j_if_eq 68 55 dX11_sheet_52 rfl rfl (fun h52 => absurd h52 hz) (fun h52 => ?_)
    refine j_iload3 56 dX11_sheet_55 rfl ?_
    refine j_bipush 58 (v := 40) dX11_sheet_56 rfl rfl ?_
    refine j_cmp_le 68 61 dX11_sheet_58 rfl rfl (fun h58 => absurd h58 h2) (fun h58 => ?_)
    refine j_aload0 62 dX11_sheet_61 rfl ?_
    refine j_ldc 64 dX11_sheet_62 rfl kc_X11_81 ?_
    refine j_vi1f 67 dX11_sheet_64 rfl rfl cl_X11_82 rfl rfl (c_err1 m) ?_
    refine j_iret dX11_sheet_67 rfl ?_
    exact ⟨rfl, rfl⟩
  · refine j_iload2 18 dX11_sheet_17 rfl ?_
    refine j_bipush 20 (v := 16) dX11_sheet_18 rfl rfl ?_
    refine j_cmp_eq 36 23 dX11_sheet_20 rfl rfl (fun h20 => ?_) (fun h20 => ?_)
    · refine j_iload2 37 dX11_sheet_36 rfl ?_
      refine j_if_eq 51 40 dX11_sheet_37 rfl rfl (fun h37 => absurd h37 hz) (fun h37 => ?_)
      refine j_iload3 41 dX11_sheet_40 rfl ?_
      refine j_if_ge 51 44 dX11_sheet_41 rfl rfl (fun h41 => ?_) (fun h41 => absurd hn h41)
      refine j_iload2 52 dX11_sheet_51 rfl ?_
      refine j_if_eq 68 55 dX11_sheet_52 rfl rfl (fun h52 => absurd h52 hz) (fun h52 => ?_)
      refine j_iload3 56 dX11_sheet_55 rfl ?_
      refine j_bipush 58 (v := 40) dX11_sheet_56 rfl rfl ?_
      refine j_cmp_le 68 61 dX11_sheet_58 rfl rfl (fun h58 => absurd h58 h2) (fun h58 => ?_)
      refine j_aload0 62 dX11_sheet_61 rfl ?_
      refine j_ldc 64 dX11_sheet_62 rfl kc_X11_81 ?_
      refine j_vi1f 67 dX11_sheet_64 rfl rfl cl_X11_82 rfl rfl (c_err1 m) ?_
      refine j_iret dX11_sheet_67 rfl ?_
      exact ⟨rfl, rfl⟩
    · refine j_iload2 24 dX11_sheet_23 rfl ?_
      refine j_bipush 26 (v := 32) dX11_sheet_24 rfl rfl ?_
      refine j_cmp_eq 36 29 dX11_sheet_26 rfl rfl (fun h26 => ?_) (fun h26 => ?_)
      · refine j_iload2 37 dX11_sheet_36 rfl ?_
        refine j_if_eq 51 40 dX11_sheet_37 rfl rfl (fun h37 => absurd h37 hz) (fun h37 => ?_)
        refine j_iload3 41 dX11_sheet_40 rfl ?_
        refine j_if_ge 51 44 dX11_sheet_41 rfl rfl (fun h41 => ?_) (fun h41 => absurd hn h41)
        refine j_iload2 52 dX11_sheet_51 rfl ?_
        refine j_if_eq 68 55 dX11_sheet_52 rfl rfl (fun h52 => absurd h52 hz) (fun h52 => ?_)
        refine j_iload3 56 dX11_sheet_55 rfl ?_
        refine j_bipush 58 (v := 40) dX11_sheet_56 rfl rfl ?_
        refine j_cmp_le 68 61 dX11_sheet_58 rfl rfl (fun h58 => absurd h58 h2) (fun h58 => ?_)
        refine j_aload0 62 dX11_sheet_61 rfl ?_
        refine j_ldc 64 dX11_sheet_62 rfl kc_X11_81 ?_
        refine j_vi1f 67 dX11_sheet_64 rfl rfl cl_X11_82 rfl rfl (c_err1 m) ?_
        refine j_iret dX11_sheet_67 rfl ?_
        exact ⟨rfl, rfl⟩
      · exact absurd hb (fun q => by rcases q with q | q | q | q; exact hz q; exact h14 q; exact h20 q; exact h26 q)
set_option maxRecDepth 100000 in
theorem f_sheet1 (m : Mem) (s b n : Int32) (c : 0 ≤ s ∧ s ≤ 3) (hb : cB b) (hz : ¬ b = 0) (hn : 0 ≤ n) (h2 : ¬ n ≤ 40) : JM l g 2 mX12_sheet [rf g 68, .int s, .int b, .int n] m (RF (some (.int (-1000000001))) (errM 1 m)) := by
  refine JM_of (ls := [some (rf g 68), some (.int s), some (.int b), some (.int n), none]) pn_X12 rfl rfl ?_
  refine j_iload1 1 dX12_sheet_0 rfl ?_
  refine j_st1f 4 dX12_sheet_1 rfl rfl cl_X12_243 rfl (c_misSheet m s) ?_
  refine j_if_eq_bz 29 7 dX12_sheet_4 rfl rfl (fun h4 => absurd c h4) (fun h4 => ?_)
  refine j_iload2 8 dX12_sheet_7 rfl ?_
  refine j_if_eq 35 11 dX12_sheet_8 rfl rfl (fun h8 => absurd h8 hz) (fun h8 => ?_)
  refine j_iload2 12 dX12_sheet_11 rfl ?_
  refine j_bipush 14 (v := 8) dX12_sheet_12 rfl rfl ?_
  refine j_cmp_eq 35 17 dX12_sheet_14 rfl rfl (fun h14 => ?_) (fun h14 => ?_)
  · refine j_iload2 36 dX12_sheet_35 rfl ?_
    refine j_if_eq 49 39 dX12_sheet_36 rfl rfl (fun h36 => absurd h36 hz) (fun h36 => ?_)
    refine j_iload3 40 dX12_sheet_39 rfl ?_
    refine j_if_ge 49 43 dX12_sheet_40 rfl rfl (fun h40 => ?_) (fun h40 => absurd hn h40)
    refine j_iload2 50 dX12_sheet_49 rfl ?_
    refine j_if_eq 65 53 dX12_sheet_50 rfl rfl (fun h50 => absurd h50 hz) (fun h50 => ?_)
    refine j_iload3 54 dX12_sheet_53 rfl ?_
    refine j_bipush 56 (v := 40) dX12_sheet_54 rfl rfl ?_
    refine j_cmp_le 65 59 dX12_sheet_56 rfl rfl (fun h56 => absurd h56 h2) (fun h56 => ?_)
    refine j_aload0 60 dX12_sheet_59 rfl ?_
    refine j_iconst 61 (v := 1) dX12_sheet_60 rfl rfl ?_
    refine j_vi1f 64 dX12_sheet_61 rfl rfl cl_X12_126 rfl rfl (c_finds1 m) ?_
    refine j_iret dX12_sheet_64 rfl ?_
    exact ⟨rfl, rfl⟩
  · refine j_iload2 18 dX12_sheet_17 rfl ?_
    refine j_bipush 20 (v := 16) dX12_sheet_18 rfl rfl ?_
    refine j_cmp_eq 35 23 dX12_sheet_20 rfl rfl (fun h20 => ?_) (fun h20 => ?_)
    · refine j_iload2 36 dX12_sheet_35 rfl ?_
      refine j_if_eq 49 39 dX12_sheet_36 rfl rfl (fun h36 => absurd h36 hz) (fun h36 => ?_)
      refine j_iload3 40 dX12_sheet_39 rfl ?_
      refine j_if_ge 49 43 dX12_sheet_40 rfl rfl (fun h40 => ?_) (fun h40 => absurd hn h40)
      refine j_iload2 50 dX12_sheet_49 rfl ?_
      refine j_if_eq 65 53 dX12_sheet_50 rfl rfl (fun h50 => absurd h50 hz) (fun h50 => ?_)
      refine j_iload3 54 dX12_sheet_53 rfl ?_
      refine j_bipush 56 (v := 40) dX12_sheet_54 rfl rfl ?_
      refine j_cmp_le 65 59 dX12_sheet_56 rfl rfl (fun h56 => absurd h56 h2) (fun h56 => ?_)
      refine j_aload0 60 dX12_sheet_59 rfl ?_
      refine j_iconst 61 (v := 1) dX12_sheet_60 rfl rfl ?_
      refine j_vi1f 64 dX12_sheet_61 rfl rfl cl_X12_126 rfl rfl (c_finds1 m) ?_
      refine j_iret dX12_sheet_64 rfl ?_
      exact ⟨rfl, rfl⟩
    · refine j_iload2 24 dX12_sheet_23 rfl ?_
      refine j_bipush 26 (v := 32) dX12_sheet_24 rfl rfl ?_
      refine j_cmp_eq 35 29 dX12_sheet_26 rfl rfl (fun h26 => ?_) (fun h26 => ?_)
      · refine j_iload2 36 dX12_sheet_35 rfl ?_
        refine j_if_eq 49 39 dX12_sheet_36 rfl rfl (fun h36 => absurd h36 hz) (fun h36 => ?_)
        refine j_iload3 40 dX12_sheet_39 rfl ?_
        refine j_if_ge 49 43 dX12_sheet_40 rfl rfl (fun h40 => ?_) (fun h40 => absurd hn h40)
        refine j_iload2 50 dX12_sheet_49 rfl ?_
        refine j_if_eq 65 53 dX12_sheet_50 rfl rfl (fun h50 => absurd h50 hz) (fun h50 => ?_)
        refine j_iload3 54 dX12_sheet_53 rfl ?_
        refine j_bipush 56 (v := 40) dX12_sheet_54 rfl rfl ?_
        refine j_cmp_le 65 59 dX12_sheet_56 rfl rfl (fun h56 => absurd h56 h2) (fun h56 => ?_)
        refine j_aload0 60 dX12_sheet_59 rfl ?_
        refine j_iconst 61 (v := 1) dX12_sheet_60 rfl rfl ?_
        refine j_vi1f 64 dX12_sheet_61 rfl rfl cl_X12_126 rfl rfl (c_finds1 m) ?_
        refine j_iret dX12_sheet_64 rfl ?_
        exact ⟨rfl, rfl⟩
      · exact absurd hb (fun q => by rcases q with q | q | q | q; exact hz q; exact h14 q; exact h20 q; exact h26 q)
theorem op_sheet {m : Mem} (I : INV m) (a b n : Int32) : OPr l g mX11_sheet mX12_sheet [.int a, .int b, .int n] m := by
  obtain ⟨-, -, -, -, hSH⟩ := id I
  by_cases c : (0 ≤ a ∧ a ≤ 3) ∧ cB b
  · obtain ⟨c, hb⟩ := c
    obtain ⟨s, hs, rfl⟩ := (rngN 3 (by decide)).mp c
    have hs : s < 4 := by omega
    have key : ∀ (b n : Int32), cB b → nb n 41 → INV (upR (up2 (up2 (up2 (up2 (upR m (61 + s) (zr1 m (61 + s))) 65 s b) 66 s n) 77 s b) 78 s n) 79 (zr2 m s)) := fun b n hb hn => by
      refine INV_sh I ((((((Sm.rf).row ?_).up (by decide)).up (by decide)).up (by decide)).up (by decide) |>.row (by decide)) (SH_sheet hSH hs hb hn rfl)
      rcases (show s = 0 ∨ s = 1 ∨ s = 2 ∨ s = 3 by omega) with rfl | rfl | rfl | rfl <;> decide
    have z9 : ∀ (b n : Int32), zr2 (up2 (up2 (upR m (61 + s) (zr1 m (61 + s))) 65 s b) 66 s n) s = zr2 m s := fun b n => by
      unfold zr2
      rw [up2_r (by decide), up2_r (by decide), upR_n (by omega)]
    by_cases hz : b = 0
    · subst hz
      have k0 := key 0 0 hb ⟨0, by decide, rfl⟩
      rw [← z9 0 0] at k0
      rcases (show s = 0 ∨ s = 1 ∨ s = 2 ∨ s = 3 by omega) with rfl | rfl | rfl | rfl
      · refine ⟨2, 2, 1, _, by decide, by decide, o_sheetZ_0 m n, fun m' e => ?_⟩
        subst e
        exact (p_sheetZ _ 0 (by decide) n).mono (RS_w (fun m2 q => by rw [q]; exact k0))
      · refine ⟨2, 2, 1, _, by decide, by decide, o_sheetZ_1 m n, fun m' e => ?_⟩
        subst e
        exact (p_sheetZ _ 1 (by decide) n).mono (RS_w (fun m2 q => by rw [q]; exact k0))
      · refine ⟨2, 2, 1, _, by decide, by decide, o_sheetZ_2 m n, fun m' e => ?_⟩
        subst e
        exact (p_sheetZ _ 2 (by decide) n).mono (RS_w (fun m2 q => by rw [q]; exact k0))
      · refine ⟨2, 2, 1, _, by decide, by decide, o_sheetZ_3 m n, fun m' e => ?_⟩
        subst e
        exact (p_sheetZ _ 3 (by decide) n).mono (RS_w (fun m2 q => by rw [q]; exact k0))
    · by_cases h1 : 0 ≤ n
      · by_cases h2 : n ≤ 40
        · have k0 := key b n hb (by obtain ⟨j, j1, j2⟩ := (rngN 40 (by decide)).mp ⟨h1, h2⟩; exact ⟨j, by omega, j2⟩)
          rw [← z9 b n] at k0
          rcases (show s = 0 ∨ s = 1 ∨ s = 2 ∨ s = 3 by omega) with rfl | rfl | rfl | rfl
          · refine ⟨2, 2, 1, _, by decide, by decide, o_sheetN_0 m b n hz hb h1 h2, fun m' e => ?_⟩
            subst e
            exact (p_sheetN _ 0 (by decide) b n hz hb h1 h2).mono (RS_w (fun m2 q => by rw [q]; exact k0))
          · refine ⟨2, 2, 1, _, by decide, by decide, o_sheetN_1 m b n hz hb h1 h2, fun m' e => ?_⟩
            subst e
            exact (p_sheetN _ 1 (by decide) b n hz hb h1 h2).mono (RS_w (fun m2 q => by rw [q]; exact k0))
          · refine ⟨2, 2, 1, _, by decide, by decide, o_sheetN_2 m b n hz hb h1 h2, fun m' e => ?_⟩
            subst e
            exact (p_sheetN _ 2 (by decide) b n hz hb h1 h2).mono (RS_w (fun m2 q => by rw [q]; exact k0))
          · refine ⟨2, 2, 1, _, by decide, by decide, o_sheetN_3 m b n hz hb h1 h2, fun m' e => ?_⟩
            subst e
            exact (p_sheetN _ 3 (by decide) b n hz hb h1 h2).mono (RS_w (fun m2 q => by rw [q]; exact k0))
        · exact OPr_err I (by decide) (by decide) (by decide) (e_sheet1 m _ b n c hb hz h1 h2) (f_sheet1 _ _ b n c hb hz h1 h2)
      · exact OPr_err I (by decide) (by decide) (by decide) (e_sheet3 m _ b n c hb hz h1) (f_sheet3 _ _ b n c hb hz h1)
  · exact OPr_err I (by decide) (by decide) (by decide) (e_sheet0 m a b n c) (f_sheet0 _ a b n c)
end O24
