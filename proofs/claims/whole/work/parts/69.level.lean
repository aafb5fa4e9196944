/-! the class: readPart, readLevel, over what they call -/
/-- a reader's contract, at depth D: from a good place on it does what F says -/
abbrev KP (l : Launch) (g : Gv) (L D n o : Nat) (m0 : Mem) (F : PT → PT) : Prop := ∀ (m : Mem) (s : PT), CR L m0 m s → s.2.2 = true → s.1 ≤ n → s.2.1.length ≤ s.1 → JM l g D mX6_readPart [rf g L, rf g 37, .int (nI n), .int (nI o)] m (RS none (fun m' => CR L m0 m' (F s)))
abbrev KL (l : Launch) (g : Gv) (L D n v o : Nat) (m0 : Mem) (F : PT → PT) : Prop := ∀ (m : Mem) (s : PT), CR L m0 m s → s.2.2 = true → s.1 ≤ n → s.2.1.length ≤ s.1 → JM l g D mX6_readLevel [rf g L, rf g 37, .int (nI n), .int (nI v), .int (nI o)] m (RS none (fun m' => CR L m0 m' (F s)))
section O34
variable {l : Launch} {g : Gv}
set_option maxRecDepth 100000 in
theorem part_39 (E Eb El n o v : Nat) (m0 : Mem) (t : Nat → Int32) (op : Bool) (fb fl : PT → PT) (hSO : SO g 0 v) (ht : ∀ j, j < 50 → m0 37 j = t j) (hnb : ∀ j, j < 50 → nb (t j) 256) (hn : n ≤ 50) (ho : o ≤ 5) (hop : op = true ↔ o < 5) (hEb : Nat.blt Eb (E + 7) = true) (hEl : Nat.blt El (E + 7) = true) (Gb : op = true → GB n fb) (Gl : op = true → GB n fl) (hb : op = true → KP l g 39 Eb n (o + 1) m0 fb) (hl : op = true → KL l g 39 El n 0 (o + 1) m0 fl) : KP l g 39 (E + 7) n o m0 (ptF t n 0 op fb fl) := by
  intro m s h ok hp hlen
  obtain ⟨hO, hCo, hVa, hBy⟩ := hSO
  obtain ⟨e7, e8, -, hoo, -⟩ := id h
  have ht1 : ∀ j, j < 50 → m 37 j = t j := fun j hj => by rw [hoo 37 (by decide) (by decide)]; exact ht j hj
  refine JM_of (ls := [some (rf g 39), some (rf g 37), some (.int (nI n)), some (.int (nI o)), none, none]) pn_X6 rfl rfl ?_
  have t154 : ∀ (x5 : Value), ¬ dgP (sgF t n s.1) → ¬ 0 ≤ nmF 0 (sgF t n s.1) → ¬ (sgF t n s.1 = 33 ∧ op = true) → ¬ (sgF t n s.1 = 40 ∧ op = true) → J l g (E + 7) mX6_readPart 154 [some (rf g 39), some (rf g 37), some (.int (nI n)), some (.int (nI o)), some (.int (sgF t n s.1)), some x5] [] m (RS none (fun m' => CR 39 m0 m' (ptF t n 0 op fb fl s))) := by
    intro x5 n1 n2 n3 n4
    have e : ptF t n 0 op fb fl s = flF s := by unfold ptF; rw [if_neg n1, if_neg n2, if_neg n3, if_neg n4]
    rw [e]
    refine j_aload0 155 dX6_readPart_154 rfl ?_
    refine j_iconst 156 (v := 1) dX6_readPart_155 rfl rfl ?_
    refine j_putZ 159 (by first | exact Or.inl rfl | exact Or.inr rfl) dX6_readPart_156 rfl fp_X6_68 rfl rfl ?_
    refine j_vret dX6_readPart_159 rfl ?_
    exact ⟨rfl, CR_fl h⟩
  have t113 : ∀ (x5 : Value), ¬ dgP (sgF t n s.1) → ¬ 0 ≤ nmF 0 (sgF t n s.1) → ¬ (sgF t n s.1 = 33 ∧ op = true) → J l g (E + 7) mX6_readPart 113 [some (rf g 39), some (rf g 37), some (.int (nI n)), some (.int (nI o)), some (.int (sgF t n s.1)), some x5] [] m (RS none (fun m' => CR 39 m0 m' (ptF t n 0 op fb fl s))) := by
    intro x5 n1 n2 n3
    by_cases q4 : sgF t n s.1 = 40 ∧ op = true
    · have e : ptF t n 0 op fb fl s = clF t n (fl (avF s)) := by unfold ptF; rw [if_neg n1, if_neg n2, if_neg n3, if_pos q4]
      have lt := sg_lt (t := t) (n := n) (p := s.1) (by rw [q4.1]; decide)
      have o5 := hop.mp q4.2
      rw [e]
      refine j_iload4 115 dX6_readPart_113 rfl ?_
      refine j_bipush 117 (v := 40) dX6_readPart_115 rfl rfl ?_
      refine j_cmp_ne 154 120 dX6_readPart_117 rfl rfl (fun h117 => absurd h117 (fun z => z q4.1)) (fun h117 => ?_)
      refine j_iload3 121 dX6_readPart_120 rfl ?_
      refine j_iconst 122 (v := 5) dX6_readPart_121 rfl rfl ?_
      refine j_cmp_ge 154 125 dX6_readPart_122 rfl rfl (fun h122 => absurd h122 (nI_ge (a := o) (b := 5) o5 (by decide))) (fun h122 => ?_)
      refine j_aload0 126 dX6_readPart_125 rfl ?_
      refine j_dup 127 dX6_readPart_126 rfl rfl ?_
      refine j_getI 130 dX6_readPart_127 rfl fl_X6_62 rfl rfl ?_
      refine j_top e7 ?_
      refine j_iconst 131 (v := 1) dX6_readPart_130 rfl rfl ?_
      refine j_iadd 132 dX6_readPart_131 rfl ?_
      refine j_top (nI_1 s.1) ?_
      refine j_putI 135 dX6_readPart_132 rfl fp_X6_62 rfl rfl ?_
      refine j_aload0 136 dX6_readPart_135 rfl ?_
      refine j_aload1 137 dX6_readPart_136 rfl ?_
      refine j_iload2 138 dX6_readPart_137 rfl ?_
      refine j_iconst 139 (v := nI 0) dX6_readPart_138 rfl rfl ?_
      refine j_iload3 140 dX6_readPart_139 rfl ?_
      refine j_iconst 141 (v := nI 1) dX6_readPart_140 rfl rfl ?_
      refine j_iaddN 142 dX6_readPart_141 rfl ?_
      refine j_vi4w 145 dX6_readPart_142 rfl hEl cl_X6_72 rfl rfl (hl q4.2 _ (avF s) (CR_av h) ok lt (show s.2.1.length ≤ s.1 + 1 by omega)) (fun m142 q142 => ?_)
      refine j_aload0 146 dX6_readPart_145 rfl ?_
      refine j_aload1 147 dX6_readPart_146 rfl ?_
      refine j_iload2 148 dX6_readPart_147 rfl ?_
      refine j_vi2w 151 dX6_readPart_148 rfl rfl cl_X6_104 rfl rfl (c_closing_39 m142 m0 (fl (avF s)) t n ht hn (Gl q4.2 (avF s) ok lt).2.1 q142) (fun m148 q148 => ?_)
      refine j_goto 159 dX6_readPart_151 rfl ?_
      refine j_vret dX6_readPart_159 rfl ?_
      exact ⟨rfl, q148⟩
    · refine j_iload4 115 dX6_readPart_113 rfl ?_
      refine j_bipush 117 (v := 40) dX6_readPart_115 rfl rfl ?_
      refine j_cmp_ne 154 120 dX6_readPart_117 rfl rfl (fun h117 => ?_) (fun h117 => ?_)
      · exact t154 x5 n1 n2 n3 q4
      · refine j_iload3 121 dX6_readPart_120 rfl ?_
        refine j_iconst 122 (v := 5) dX6_readPart_121 rfl rfl ?_
        refine j_cmp_ge 154 125 dX6_readPart_122 rfl rfl (fun h122 => ?_) (fun h122 => ?_)
        · exact t154 x5 n1 n2 n3 q4
        · exact absurd (show sgF t n s.1 = 40 ∧ op = true from And.intro h117 (hop.mpr (Nat.not_le.mp (fun z => h122 (nI_le (a := 5) (b := o) z (by omega)))))) q4
  have t30 : J l g (E + 7) mX6_readPart 30 [some (rf g 39), some (rf g 37), some (.int (nI n)), some (.int (nI o)), some (.int (sgF t n s.1)), none] [.int (nmF 0 (sgF t n s.1))] m (RS none (fun m' => CR 39 m0 m' (ptF t n 0 op fb fl s))) := by
    by_cases n1 : dgP (sgF t n s.1)
    · have e : ptF t n 0 op fb fl s = nuF t n s := by unfold ptF; rw [if_pos n1]
      have lt := sg_lt (t := t) (n := n) (p := s.1) (fun z => by rw [z] at n1; exact absurd n1.1 (by decide))
      rw [e]
      refine j_istore5 32 dX6_readPart_30 rfl rfl rfl ?_
      refine j_iload4 34 dX6_readPart_32 rfl ?_
      refine j_st1f 37 dX6_readPart_34 rfl rfl cl_X6_97 rfl (c_isDigit m _) ?_
      refine j_if_eq_bz 49 40 dX6_readPart_37 rfl rfl (fun h37 => absurd n1 h37) (fun h37 => ?_)
      refine j_aload0 41 dX6_readPart_40 rfl ?_
      refine j_aload1 42 dX6_readPart_41 rfl ?_
      refine j_iload2 43 dX6_readPart_42 rfl ?_
      refine j_vi2w 46 dX6_readPart_43 rfl rfl cl_X6_101 rfl rfl (c_number_39 m m0 s t n ht hn ok hp (by omega) h) (fun m43 q43 => ?_)
      refine j_goto 159 dX6_readPart_46 rfl ?_
      refine j_vret dX6_readPart_159 rfl ?_
      exact ⟨rfl, q43⟩
    · by_cases n2 : 0 ≤ nmF 0 (sgF t n s.1)
      · have e : ptF t n 0 op fb fl s = wrF (10000 + nmF 0 (sgF t n s.1)) (avF s) := by unfold ptF; rw [if_neg n1, if_pos n2]
        have lt := sg_lt (t := t) (n := n) (p := s.1) (fun z => by rw [z, nm_m1 (by decide)] at n2; exact absurd n2 (by decide))
        obtain ⟨k, k1, k2⟩ := nm_k n2
        rw [e]
        refine j_istore5 32 dX6_readPart_30 rfl rfl rfl ?_
        refine j_iload4 34 dX6_readPart_32 rfl ?_
        refine j_st1f 37 dX6_readPart_34 rfl rfl cl_X6_97 rfl (c_isDigit m _) ?_
        refine j_if_eq_bz 49 40 dX6_readPart_37 rfl rfl (fun h37 => ?_) (fun h37 => absurd h37 n1)
        refine j_iload5 51 dX6_readPart_49 rfl ?_
        refine j_if_lt 73 54 dX6_readPart_51 rfl rfl (fun h51 => absurd h51 (Int32.not_lt.mpr n2)) (fun h51 => ?_)
        refine j_aload0 55 dX6_readPart_54 rfl ?_
        refine j_dup 56 dX6_readPart_55 rfl rfl ?_
        refine j_getI 59 dX6_readPart_56 rfl fl_X6_62 rfl rfl ?_
        refine j_top e7 ?_
        refine j_iconst 60 (v := 1) dX6_readPart_59 rfl rfl ?_
        refine j_iadd 61 dX6_readPart_60 rfl ?_
        refine j_top (nI_1 s.1) ?_
        refine j_putI 64 dX6_readPart_61 rfl fp_X6_62 rfl rfl ?_
        refine j_aload0 65 dX6_readPart_64 rfl ?_
        refine j_iload5 67 dX6_readPart_65 rfl ?_
        refine j_top (show nmF 0 (sgF t n s.1) = encT (10000 + nmF 0 (sgF t n s.1)) by rw [k2]; exact enc_m k1) ?_
        refine j_vi1w 70 dX6_readPart_67 rfl rfl cl_X6_88 rfl rfl (c_write_39 _ m0 (avF s) _ (CR_av h) (fun _ => show s.2.1.length < 50 by omega)) (fun m67 q67 => ?_)
        refine j_goto 159 dX6_readPart_70 rfl ?_
        refine j_vret dX6_readPart_159 rfl ?_
        exact ⟨rfl, q67⟩
      · by_cases n3 : sgF t n s.1 = 33 ∧ op = true
        · have e : ptF t n 0 op fb fl s = wrF 20033 (fb (avF s)) := by unfold ptF; rw [if_neg n1, if_neg n2, if_pos n3]
          have lt := sg_lt (t := t) (n := n) (p := s.1) (by rw [n3.1]; decide)
          have o5 := hop.mp n3.2
          have gb := Gb n3.2 (avF s) ok lt
          rw [e]
          refine j_istore5 32 dX6_readPart_30 rfl rfl rfl ?_
          refine j_iload4 34 dX6_readPart_32 rfl ?_
          refine j_st1f 37 dX6_readPart_34 rfl rfl cl_X6_97 rfl (c_isDigit m _) ?_
          refine j_if_eq_bz 49 40 dX6_readPart_37 rfl rfl (fun h37 => ?_) (fun h37 => absurd h37 n1)
          refine j_iload5 51 dX6_readPart_49 rfl ?_
          refine j_if_lt 73 54 dX6_readPart_51 rfl rfl (fun h51 => ?_) (fun h51 => absurd (Int32.not_le.mp n2) h51)
          refine j_iload4 75 dX6_readPart_73 rfl ?_
          refine j_bipush 77 (v := 33) dX6_readPart_75 rfl rfl ?_
          refine j_cmp_ne 113 80 dX6_readPart_77 rfl rfl (fun h77 => absurd h77 (fun z => z n3.1)) (fun h77 => ?_)
          refine j_iload3 81 dX6_readPart_80 rfl ?_
          refine j_iconst 82 (v := 5) dX6_readPart_81 rfl rfl ?_
          refine j_cmp_ge 113 85 dX6_readPart_82 rfl rfl (fun h82 => absurd h82 (nI_ge (a := o) (b := 5) o5 (by decide))) (fun h82 => ?_)
          refine j_aload0 86 dX6_readPart_85 rfl ?_
          refine j_dup 87 dX6_readPart_86 rfl rfl ?_
          refine j_getI 90 dX6_readPart_87 rfl fl_X6_62 rfl rfl ?_
          refine j_top e7 ?_
          refine j_iconst 91 (v := 1) dX6_readPart_90 rfl rfl ?_
          refine j_iadd 92 dX6_readPart_91 rfl ?_
          refine j_top (nI_1 s.1) ?_
          refine j_putI 95 dX6_readPart_92 rfl fp_X6_62 rfl rfl ?_
          refine j_aload0 96 dX6_readPart_95 rfl ?_
          refine j_aload1 97 dX6_readPart_96 rfl ?_
          refine j_iload2 98 dX6_readPart_97 rfl ?_
          refine j_iload3 99 dX6_readPart_98 rfl ?_
          refine j_iconst 100 (v := nI 1) dX6_readPart_99 rfl rfl ?_
          refine j_iaddN 101 dX6_readPart_100 rfl ?_
          refine j_vi3w 104 dX6_readPart_101 rfl hEb cl_X6_76 rfl rfl (hb n3.2 _ (avF s) (CR_av h) ok lt (show s.2.1.length ≤ s.1 + 1 by omega)) (fun m101 q101 => ?_)
          refine j_aload0 105 dX6_readPart_104 rfl ?_
          refine j_iload4 107 dX6_readPart_105 rfl ?_
          refine j_top (show sgF t n s.1 = encT 20033 by rw [n3.1]; decide) ?_
          refine j_vi1w 110 dX6_readPart_107 rfl rfl cl_X6_88 rfl rfl (c_write_39 m101 m0 (fb (avF s)) 20033 q101 (fun _ => by have a := gb.2.2; have b := gb.2.1; have c : (fb (avF s)).2.1.length + (s.1 + 1) ≤ (fb (avF s)).1 + s.2.1.length := a; omega)) (fun m107 q107 => ?_)
          refine j_goto 159 dX6_readPart_110 rfl ?_
          refine j_vret dX6_readPart_159 rfl ?_
          exact ⟨rfl, q107⟩
        · refine j_istore5 32 dX6_readPart_30 rfl rfl rfl ?_
          refine j_iload4 34 dX6_readPart_32 rfl ?_
          refine j_st1f 37 dX6_readPart_34 rfl rfl cl_X6_97 rfl (c_isDigit m _) ?_
          refine j_if_eq_bz 49 40 dX6_readPart_37 rfl rfl (fun h37 => ?_) (fun h37 => absurd h37 n1)
          refine j_iload5 51 dX6_readPart_49 rfl ?_
          refine j_if_lt 73 54 dX6_readPart_51 rfl rfl (fun h51 => ?_) (fun h51 => absurd (Int32.not_le.mp n2) h51)
          refine j_iload4 75 dX6_readPart_73 rfl ?_
          refine j_bipush 77 (v := 33) dX6_readPart_75 rfl rfl ?_
          refine j_cmp_ne 113 80 dX6_readPart_77 rfl rfl (fun h77 => ?_) (fun h77 => ?_)
          · exact t113 _ n1 n2 n3
          · refine j_iload3 81 dX6_readPart_80 rfl ?_
            refine j_iconst 82 (v := 5) dX6_readPart_81 rfl rfl ?_
            refine j_cmp_ge 113 85 dX6_readPart_82 rfl rfl (fun h82 => ?_) (fun h82 => ?_)
            · exact t113 _ n1 n2 n3
            · exact absurd (show sgF t n s.1 = 33 ∧ op = true from And.intro h77 (hop.mpr (Nat.not_le.mp (fun z => h82 (nI_le (a := 5) (b := o) z (by omega)))))) n3
  rcases sg_nb hnb hn s.1 with hm | ⟨b, hb1, hb2⟩
  · have en : nmF 0 (sgF t n s.1) = -1 := by rw [hm]; exact nm_m1 (by decide)
    refine j_aload1 1 dX6_readPart_0 rfl ?_
    refine j_iload2 2 dX6_readPart_1 rfl ?_
    refine j_aload0 3 dX6_readPart_2 rfl ?_
    refine j_getI 6 dX6_readPart_3 rfl fl_X6_62 rfl rfl ?_
    refine j_top e7 ?_
    refine j_st3f 9 dX6_readPart_6 rfl rfl cl_X6_80 rfl (c_signAt m t n s.1 ht1 hn (by omega)) ?_
    refine j_istore4 11 dX6_readPart_9 rfl rfl rfl ?_
    refine j_iload4 13 dX6_readPart_11 rfl ?_
    refine j_if_ge 20 16 dX6_readPart_13 rfl rfl (fun h13 => absurd h13 (by rw [hm]; decide)) (fun h13 => ?_)
    refine j_iconst 17 (v := -1) dX6_readPart_16 rfl rfl ?_
    refine j_goto 30 dX6_readPart_17 rfl ?_
    rw [en] at t30
    exact t30
  · refine j_aload1 1 dX6_readPart_0 rfl ?_
    refine j_iload2 2 dX6_readPart_1 rfl ?_
    refine j_aload0 3 dX6_readPart_2 rfl ?_
    refine j_getI 6 dX6_readPart_3 rfl fl_X6_62 rfl rfl ?_
    refine j_top e7 ?_
    refine j_st3f 9 dX6_readPart_6 rfl rfl cl_X6_80 rfl (c_signAt m t n s.1 ht1 hn (by omega)) ?_
    refine j_istore4 11 dX6_readPart_9 rfl rfl rfl ?_
    refine j_iload4 13 dX6_readPart_11 rfl ?_
    refine j_if_ge 20 16 dX6_readPart_13 rfl rfl (fun h13 => ?_) (fun h13 => absurd (by rw [hb2]; exact nI_pos' (by omega)) h13)
    refine j_aload0 21 dX6_readPart_20 rfl ?_
    refine j_getR 24 dX6_readPart_21 rfl fl_X6_21 rfl rfl ?_
    refine j_iload4 26 dX6_readPart_24 rfl ?_
    refine j_i2c 27 dX6_readPart_26 rfl ?_
    refine j_top (show ((sgF t n s.1).toUInt32 % 65536).toInt32 = nI b by rw [hb2]; exact i2c_n hb1) ?_
    refine j_vS1 30 dX6_readPart_27 rfl rfl cv_X6_92 hO rfl (s_ix m _ v b 0 hb1 (by decide) hO hCo hVa hBy) ?_
    rw [show nmF 0 (sgF t n s.1) = ixF 0 b by rw [hb2]; rfl] at t30
    exact t30
set_option maxRecDepth 100000 in
theorem level5_39 (E n o : Nat) (m0 : Mem) (pf : PT → PT) (hpf : KP l g 39 E n o m0 pf) : KL l g 39 (E + 1) n 5 o m0 pf := by
  intro m s h ok hp hlen
  refine JM_of (ls := [some (rf g 39), some (rf g 37), some (.int (nI n)), some (.int (nI 5)), some (.int (nI o)), none, none, none]) pn_X6 rfl rfl ?_
  refine j_iload3 1 dX6_readLevel_0 rfl ?_
  refine j_iconst 2 (v := 5) dX6_readLevel_1 rfl rfl ?_
  refine j_cmp_lt 14 5 dX6_readLevel_2 rfl rfl (fun h2 => absurd h2 (by decide)) (fun h2 => ?_)
  refine j_aload0 6 dX6_readLevel_5 rfl ?_
  refine j_aload1 7 dX6_readLevel_6 rfl ?_
  refine j_iload2 8 dX6_readLevel_7 rfl ?_
  refine j_iload4 10 dX6_readLevel_8 rfl ?_
  refine j_vi3w 13 dX6_readLevel_10 rfl (blt_ok (Nat.lt_succ_self E)) cl_X6_76 rfl rfl (hpf m s h ok hp hlen) (fun m10 q10 => ?_)
  refine j_vret dX6_readLevel_13 rfl ?_
  exact ⟨rfl, q10⟩
set_option maxRecDepth 100000 in
theorem lvlp_39 {Q : Option Value → Mem → Prop} (E n v o : Nat) (m0 : Mem) (t : Nat → Int32) (sub : PT → PT) (ht : ∀ j, j < 50 → m0 37 j = t j) (hnb : ∀ j, j < 50 → nb (t j) 256) (hn : n ≤ 50) (hv : v ≤ 4) (Gs : GB n sub) (hsub : KL l g 39 (E + 6) n (v + 1) o m0 sub) (N : Nat) (hN : N ≤ 50) : ∀ (k i : Nat) (m : Mem) (s : PT) (o7 : Option Value), i + k = N → CR 39 m0 m s → s.1 ≤ n → s.2.1.length ≤ s.1 → (∀ m', CR 39 m0 m' (lpF t n (nI v) sub k s) → Q none m') → J l g (E + 7) mX6_readLevel 41 [some (rf g 39), some (rf g 37), some (.int (nI n)), some (.int (nI v)), some (.int (nI o)), some (.int (nI N)), some (.int (nI i)), o7] [] m Q := by
  intro k
  induction k with
  | zero =>
    intro i m s o7 e h hp hl kk
    have e : i = N := by omega
    subst e
    refine j_iload6 43 dX6_readLevel_41 rfl ?_
    refine j_iload5 45 dX6_readLevel_43 rfl ?_
    refine j_cmp_ge 109 48 dX6_readLevel_45 rfl rfl (fun h45 => ?_) (fun h45 => absurd (Int32.le_refl _) h45)
    refine j_vret dX6_readLevel_109 rfl ?_
    exact kk m h
  | succ k ih =>
    intro i m s o7 e h hp hl kk
    have e2 : nI i + 1 = nI (i + 1) := nI_1 i
    obtain ⟨e7, e8, -, hoo, -⟩ := id h
    have ht1 : ∀ j, j < 50 → m 37 j = t j := fun j hj => by rw [hoo 37 (by decide) (by decide)]; exact ht j hj
    by_cases ok : s.2.2 = true
    · rw [if_pos ok] at e8
      by_cases hv1 : lvO (sgF t n s.1) = nI v
      · have lt := lvl_lt hv hv1
        have gs := Gs (avF s) ok lt
        have g3 : (sub (avF s)).2.1.length + (s.1 + 1) ≤ (sub (avF s)).1 + s.2.1.length := gs.2.2
        obtain ⟨c, c1, c2, c3, c4⟩ := lv_c hv hv1
        have kk1 := kk
        rw [show lpF t n (nI v) sub (k + 1) s = lpF t n (nI v) sub k (wrF (20000 + sgF t n s.1) (sub (avF s))) from if_pos ⟨ok, hv1⟩] at kk1
        have wl := wr_len (20000 + sgF t n s.1) (sub (avF s))
        refine j_iload6 43 dX6_readLevel_41 rfl ?_
        refine j_iload5 45 dX6_readLevel_43 rfl ?_
        refine j_cmp_ge 109 48 dX6_readLevel_45 rfl rfl (fun h45 => absurd h45 (nI_ge (a := i) (b := N) (by omega) (by omega))) (fun h45 => ?_)
        refine j_aload0 49 dX6_readLevel_48 rfl ?_
        refine j_getI 52 dX6_readLevel_49 rfl fl_X6_68 rfl rfl ?_
        refine j_top e8 ?_
        refine j_if_ne 109 55 dX6_readLevel_52 rfl rfl (fun h52 => absurd h52 (fun q => q rfl)) (fun h52 => ?_)
        refine j_aload1 56 dX6_readLevel_55 rfl ?_
        refine j_iload2 57 dX6_readLevel_56 rfl ?_
        refine j_aload0 58 dX6_readLevel_57 rfl ?_
        refine j_getI 61 dX6_readLevel_58 rfl fl_X6_62 rfl rfl ?_
        refine j_top e7 ?_
        refine j_st3f 64 dX6_readLevel_61 rfl rfl cl_X6_80 rfl (c_signAt m t n s.1 ht1 hn (by omega)) ?_
        refine j_istore7 66 dX6_readLevel_64 rfl rfl rfl ?_
        refine j_iload7 68 dX6_readLevel_66 rfl ?_
        refine j_st1f 71 dX6_readLevel_68 rfl rfl cl_X6_84 rfl (c_levelOf m _) ?_
        refine j_iload3 72 dX6_readLevel_71 rfl ?_
        refine j_cmp_eq 76 75 dX6_readLevel_72 rfl rfl (fun h72 => ?_) (fun h72 => absurd hv1 h72)
        refine j_aload0 77 dX6_readLevel_76 rfl ?_
        refine j_dup 78 dX6_readLevel_77 rfl rfl ?_
        refine j_getI 81 dX6_readLevel_78 rfl fl_X6_62 rfl rfl ?_
        refine j_top e7 ?_
        refine j_iconst 82 (v := 1) dX6_readLevel_81 rfl rfl ?_
        refine j_iadd 83 dX6_readLevel_82 rfl ?_
        refine j_top (nI_1 s.1) ?_
        refine j_putI 86 dX6_readLevel_83 rfl fp_X6_62 rfl rfl ?_
        refine j_aload0 87 dX6_readLevel_86 rfl ?_
        refine j_aload1 88 dX6_readLevel_87 rfl ?_
        refine j_iload2 89 dX6_readLevel_88 rfl ?_
        refine j_iload3 90 dX6_readLevel_89 rfl ?_
        refine j_iconst 91 (v := nI 1) dX6_readLevel_90 rfl rfl ?_
        refine j_iaddN 92 dX6_readLevel_91 rfl ?_
        refine j_iload4 94 dX6_readLevel_92 rfl ?_
        refine j_vi4w 97 dX6_readLevel_94 rfl (blt_ok (Nat.lt_succ_self (E + 6))) cl_X6_72 rfl rfl (hsub _ (avF s) (CR_av h) ok lt (show s.2.1.length ≤ s.1 + 1 by omega)) (fun m94 q94 => ?_)
        refine j_aload0 98 dX6_readLevel_97 rfl ?_
        refine j_iload7 100 dX6_readLevel_98 rfl ?_
        refine j_top (show sgF t n s.1 = encT (20000 + sgF t n s.1) by rw [c4]; exact enc_s c2) ?_
        refine j_vi1w 103 dX6_readLevel_100 rfl rfl cl_X6_88 rfl rfl (c_write_39 m94 m0 (sub (avF s)) (20000 + sgF t n s.1) q94 (fun _ => by have := gs.2.1; omega)) (fun m100 q100 => ?_)
        refine j_iinc6 106 (1) dX6_readLevel_103 rfl rfl rfl rfl ?_
        refine j_goto 41 dX6_readLevel_106 rfl ?_
        rw [e2]
        exact ih (i + 1) m100 (wrF (20000 + sgF t n s.1) (sub (avF s))) _ (by omega) q100 (by rw [wr_1]; exact gs.2.1) (by rw [wr_1]; omega) kk1
      · have kk1 := kk
        rw [show lpF t n (nI v) sub (k + 1) s = s from if_neg (fun q => hv1 q.2)] at kk1
        refine j_iload6 43 dX6_readLevel_41 rfl ?_
        refine j_iload5 45 dX6_readLevel_43 rfl ?_
        refine j_cmp_ge 109 48 dX6_readLevel_45 rfl rfl (fun h45 => absurd h45 (nI_ge (a := i) (b := N) (by omega) (by omega))) (fun h45 => ?_)
        refine j_aload0 49 dX6_readLevel_48 rfl ?_
        refine j_getI 52 dX6_readLevel_49 rfl fl_X6_68 rfl rfl ?_
        refine j_top e8 ?_
        refine j_if_ne 109 55 dX6_readLevel_52 rfl rfl (fun h52 => absurd h52 (fun q => q rfl)) (fun h52 => ?_)
        refine j_aload1 56 dX6_readLevel_55 rfl ?_
        refine j_iload2 57 dX6_readLevel_56 rfl ?_
        refine j_aload0 58 dX6_readLevel_57 rfl ?_
        refine j_getI 61 dX6_readLevel_58 rfl fl_X6_62 rfl rfl ?_
        refine j_top e7 ?_
        refine j_st3f 64 dX6_readLevel_61 rfl rfl cl_X6_80 rfl (c_signAt m t n s.1 ht1 hn (by omega)) ?_
        refine j_istore7 66 dX6_readLevel_64 rfl rfl rfl ?_
        refine j_iload7 68 dX6_readLevel_66 rfl ?_
        refine j_st1f 71 dX6_readLevel_68 rfl rfl cl_X6_84 rfl (c_levelOf m _) ?_
        refine j_iload3 72 dX6_readLevel_71 rfl ?_
        refine j_cmp_eq 76 75 dX6_readLevel_72 rfl rfl (fun h72 => absurd h72 hv1) (fun h72 => ?_)
        refine j_vret dX6_readLevel_75 rfl ?_
        exact kk1 m h
    · rw [if_neg ok] at e8
      have kk1 := kk
      rw [show lpF t n (nI v) sub (k + 1) s = s from if_neg (fun q => ok q.1)] at kk1
      refine j_iload6 43 dX6_readLevel_41 rfl ?_
      refine j_iload5 45 dX6_readLevel_43 rfl ?_
      refine j_cmp_ge 109 48 dX6_readLevel_45 rfl rfl (fun h45 => absurd h45 (nI_ge (a := i) (b := N) (by omega) (by omega))) (fun h45 => ?_)
      refine j_aload0 49 dX6_readLevel_48 rfl ?_
      refine j_getI 52 dX6_readLevel_49 rfl fl_X6_68 rfl rfl ?_
      refine j_top e8 ?_
      refine j_if_ne 109 55 dX6_readLevel_52 rfl rfl (fun h52 => ?_) (fun h52 => absurd h52 (by decide))
      refine j_vret dX6_readLevel_109 rfl ?_
      exact kk1 m h
set_option maxRecDepth 100000 in
theorem level_39 (E n j o : Nat) (m0 : Mem) (t : Nat → Int32) (pf : PT → PT) (ht : ∀ j, j < 50 → m0 37 j = t j) (hnb : ∀ j, j < 50 → nb (t j) 256) (hn : n ≤ 50) (hj : j ≤ 4) (Gp : GB n pf) (hsub : KL l g 39 (E + 6) n (5 - j) o m0 (leF t n pf j)) : KL l g 39 (E + 7) n (4 - j) o m0 (leF t n pf (j + 1)) := by
  intro m s h ok hp hlen
  have Gs := GB_le (t := t) Gp j (by omega)
  have hsub1 : KL l g 39 (E + 6) n (4 - j + 1) o m0 (leF t n pf j) := by rw [show 4 - j + 1 = 5 - j by omega]; exact hsub
  have gs := Gs s ok hp
  refine JM_of (ls := [some (rf g 39), some (rf g 37), some (.int (nI n)), some (.int (nI (4 - j))), some (.int (nI o)), none, none, none]) pn_X6 rfl rfl ?_
  have tl : ∀ m1, CR 39 m0 m1 (leF t n pf j s) → J l g (E + 7) mX6_readLevel 36 [some (rf g 39), some (rf g 37), some (.int (nI n)), some (.int (nI (4 - j))), some (.int (nI o)), none, none, none] [.int (nI (fuL j))] m1 (RS none (fun m' => CR 39 m0 m' (leF t n pf (j + 1) s))) := by
    intro m1 h1
    refine j_istore5 38 dX6_readLevel_36 rfl rfl rfl ?_
    refine j_iconst 39 (v := 0) dX6_readLevel_38 rfl rfl ?_
    refine j_istore6 41 dX6_readLevel_39 rfl rfl rfl ?_
    exact lvlp_39 E n (4 - j) o m0 t (leF t n pf j) ht hnb hn (by omega) Gs hsub1 (fuL j) (by unfold fuL; split <;> omega) (fuL j) 0 m1 (leF t n pf j s) none (Nat.zero_add _) h1 gs.2.1 (by omega) (fun m' q => ⟨rfl, q⟩)
  by_cases q2 : j = 2
  · subst q2
    refine j_iload3 1 dX6_readLevel_0 rfl ?_
    refine j_iconst 2 (v := 5) dX6_readLevel_1 rfl rfl ?_
    refine j_cmp_lt 14 5 dX6_readLevel_2 rfl rfl (fun h2 => ?_) (fun h2 => absurd (by decide) h2)
    refine j_aload0 15 dX6_readLevel_14 rfl ?_
    refine j_aload1 16 dX6_readLevel_15 rfl ?_
    refine j_iload2 17 dX6_readLevel_16 rfl ?_
    refine j_iload3 18 dX6_readLevel_17 rfl ?_
    refine j_iconst 19 (v := nI 1) dX6_readLevel_18 rfl rfl ?_
    refine j_iaddN 20 dX6_readLevel_19 rfl ?_
    refine j_iload4 22 dX6_readLevel_20 rfl ?_
    refine j_vi4w 25 dX6_readLevel_22 rfl (blt_ok (Nat.lt_succ_self (E + 6))) cl_X6_72 rfl rfl (hsub1 m s h ok hp hlen) (fun m22 q22 => ?_)
    refine j_iload3 26 dX6_readLevel_25 rfl ?_
    refine j_iconst 27 (v := 2) dX6_readLevel_26 rfl rfl ?_
    refine j_cmp_ne 34 30 dX6_readLevel_27 rfl rfl (fun h27 => absurd h27 (fun q => q (by decide))) (fun h27 => ?_)
    refine j_iconst 31 (v := 1) dX6_readLevel_30 rfl rfl ?_
    refine j_goto 36 dX6_readLevel_31 rfl ?_
    exact tl m22 q22
  · have f : nI (fuL j) = 50 := by unfold fuL; rw [if_neg q2]; rfl
    rw [f] at tl
    refine j_iload3 1 dX6_readLevel_0 rfl ?_
    refine j_iconst 2 (v := 5) dX6_readLevel_1 rfl rfl ?_
    refine j_cmp_lt 14 5 dX6_readLevel_2 rfl rfl (fun h2 => ?_) (fun h2 => absurd (show nI (4 - j) < 5 from nI_lt (a := 4 - j) (b := 5) (by omega) (by decide)) h2)
    refine j_aload0 15 dX6_readLevel_14 rfl ?_
    refine j_aload1 16 dX6_readLevel_15 rfl ?_
    refine j_iload2 17 dX6_readLevel_16 rfl ?_
    refine j_iload3 18 dX6_readLevel_17 rfl ?_
    refine j_iconst 19 (v := nI 1) dX6_readLevel_18 rfl rfl ?_
    refine j_iaddN 20 dX6_readLevel_19 rfl ?_
    refine j_iload4 22 dX6_readLevel_20 rfl ?_
    refine j_vi4w 25 dX6_readLevel_22 rfl (blt_ok (Nat.lt_succ_self (E + 6))) cl_X6_72 rfl rfl (hsub1 m s h ok hp hlen) (fun m22 q22 => ?_)
    refine j_iload3 26 dX6_readLevel_25 rfl ?_
    refine j_iconst 27 (v := 2) dX6_readLevel_26 rfl rfl ?_
    refine j_cmp_ne 34 30 dX6_readLevel_27 rfl rfl (fun h27 => ?_) (fun h27 => absurd h27 (fun q => q2 (by have := (nI_eq (a := 4 - j) (b := 2) (by omega) (by decide)).mp q; omega)))
    refine j_bipush 36 (v := 50) dX6_readLevel_34 rfl rfl ?_
    exact tl m22 q22
set_option maxRecDepth 100000 in
theorem part_43 (E Eb El n o v : Nat) (m0 : Mem) (t : Nat → Int32) (op : Bool) (fb fl : PT → PT) (hSO : SO g 1 v) (ht : ∀ j, j < 50 → m0 37 j = t j) (hnb : ∀ j, j < 50 → nb (t j) 256) (hn : n ≤ 50) (ho : o ≤ 5) (hop : op = true ↔ o < 5) (hEb : Nat.blt Eb (E + 7) = true) (hEl : Nat.blt El (E + 7) = true) (Gb : op = true → GB n fb) (Gl : op = true → GB n fl) (hb : op = true → KP l g 43 Eb n (o + 1) m0 fb) (hl : op = true → KL l g 43 El n 0 (o + 1) m0 fl) : KP l g 43 (E + 7) n o m0 (ptF t n 1 op fb fl) := by
  intro m s h ok hp hlen
  obtain ⟨hO, hCo, hVa, hBy⟩ := hSO
  obtain ⟨e7, e8, -, hoo, -⟩ := id h
  have ht1 : ∀ j, j < 50 → m 37 j = t j := fun j hj => by rw [hoo 37 (by decide) (by decide)]; exact ht j hj
  refine JM_of (ls := [some (rf g 43), some (rf g 37), some (.int (nI n)), some (.int (nI o)), none, none]) pn_X6 rfl rfl ?_
  have t154 : ∀ (x5 : Value), ¬ dgP (sgF t n s.1) → ¬ 0 ≤ nmF 1 (sgF t n s.1) → ¬ (sgF t n s.1 = 33 ∧ op = true) → ¬ (sgF t n s.1 = 40 ∧ op = true) → J l g (E + 7) mX6_readPart 154 [some (rf g 43), some (rf g 37), some (.int (nI n)), some (.int (nI o)), some (.int (sgF t n s.1)), some x5] [] m (RS none (fun m' => CR 43 m0 m' (ptF t n 1 op fb fl s))) := by
    intro x5 n1 n2 n3 n4
    have e : ptF t n 1 op fb fl s = flF s := by unfold ptF; rw [if_neg n1, if_neg n2, if_neg n3, if_neg n4]
    rw [e]
    refine j_aload0 155 dX6_readPart_154 rfl ?_
    refine j_iconst 156 (v := 1) dX6_readPart_155 rfl rfl ?_
    refine j_putZ 159 (by first | exact Or.inl rfl | exact Or.inr rfl) dX6_readPart_156 rfl fp_X6_68 rfl rfl ?_
    refine j_vret dX6_readPart_159 rfl ?_
    exact ⟨rfl, CR_fl h⟩
  have t113 : ∀ (x5 : Value), ¬ dgP (sgF t n s.1) → ¬ 0 ≤ nmF 1 (sgF t n s.1) → ¬ (sgF t n s.1 = 33 ∧ op = true) → J l g (E + 7) mX6_readPart 113 [some (rf g 43), some (rf g 37), some (.int (nI n)), some (.int (nI o)), some (.int (sgF t n s.1)), some x5] [] m (RS none (fun m' => CR 43 m0 m' (ptF t n 1 op fb fl s))) := by
    intro x5 n1 n2 n3
    by_cases q4 : sgF t n s.1 = 40 ∧ op = true
    · have e : ptF t n 1 op fb fl s = clF t n (fl (avF s)) := by unfold ptF; rw [if_neg n1, if_neg n2, if_neg n3, if_pos q4]
      have lt := sg_lt (t := t) (n := n) (p := s.1) (by rw [q4.1]; decide)
      have o5 := hop.mp q4.2
      rw [e]
      refine j_iload4 115 dX6_readPart_113 rfl ?_
      refine j_bipush 117 (v := 40) dX6_readPart_115 rfl rfl ?_
      refine j_cmp_ne 154 120 dX6_readPart_117 rfl rfl (fun h117 => absurd h117 (fun z => z q4.1)) (fun h117 => ?_)
      refine j_iload3 121 dX6_readPart_120 rfl ?_
      refine j_iconst 122 (v := 5) dX6_readPart_121 rfl rfl ?_
      refine j_cmp_ge 154 125 dX6_readPart_122 rfl rfl (fun h122 => absurd h122 (nI_ge (a := o) (b := 5) o5 (by decide))) (fun h122 => ?_)
      refine j_aload0 126 dX6_readPart_125 rfl ?_
      refine j_dup 127 dX6_readPart_126 rfl rfl ?_
      refine j_getI 130 dX6_readPart_127 rfl fl_X6_62 rfl rfl ?_
      refine j_top e7 ?_
      refine j_iconst 131 (v := 1) dX6_readPart_130 rfl rfl ?_
      refine j_iadd 132 dX6_readPart_131 rfl ?_
      refine j_top (nI_1 s.1) ?_
      refine j_putI 135 dX6_readPart_132 rfl fp_X6_62 rfl rfl ?_
      refine j_aload0 136 dX6_readPart_135 rfl ?_
      refine j_aload1 137 dX6_readPart_136 rfl ?_
      refine j_iload2 138 dX6_readPart_137 rfl ?_
      refine j_iconst 139 (v := nI 0) dX6_readPart_138 rfl rfl ?_
      refine j_iload3 140 dX6_readPart_139 rfl ?_
      refine j_iconst 141 (v := nI 1) dX6_readPart_140 rfl rfl ?_
      refine j_iaddN 142 dX6_readPart_141 rfl ?_
      refine j_vi4w 145 dX6_readPart_142 rfl hEl cl_X6_72 rfl rfl (hl q4.2 _ (avF s) (CR_av h) ok lt (show s.2.1.length ≤ s.1 + 1 by omega)) (fun m142 q142 => ?_)
      refine j_aload0 146 dX6_readPart_145 rfl ?_
      refine j_aload1 147 dX6_readPart_146 rfl ?_
      refine j_iload2 148 dX6_readPart_147 rfl ?_
      refine j_vi2w 151 dX6_readPart_148 rfl rfl cl_X6_104 rfl rfl (c_closing_43 m142 m0 (fl (avF s)) t n ht hn (Gl q4.2 (avF s) ok lt).2.1 q142) (fun m148 q148 => ?_)
      refine j_goto 159 dX6_readPart_151 rfl ?_
      refine j_vret dX6_readPart_159 rfl ?_
      exact ⟨rfl, q148⟩
    · refine j_iload4 115 dX6_readPart_113 rfl ?_
      refine j_bipush 117 (v := 40) dX6_readPart_115 rfl rfl ?_
      refine j_cmp_ne 154 120 dX6_readPart_117 rfl rfl (fun h117 => ?_) (fun h117 => ?_)
      · exact t154 x5 n1 n2 n3 q4
      · refine j_iload3 121 dX6_readPart_120 rfl ?_
        refine j_iconst 122 (v := 5) dX6_readPart_121 rfl rfl ?_
        refine j_cmp_ge 154 125 dX6_readPart_122 rfl rfl (fun h122 => ?_) (fun h122 => ?_)
        · exact t154 x5 n1 n2 n3 q4
        · exact absurd (show sgF t n s.1 = 40 ∧ op = true from And.intro h117 (hop.mpr (Nat.not_le.mp (fun z => h122 (nI_le (a := 5) (b := o) z (by omega)))))) q4
  have t30 : J l g (E + 7) mX6_readPart 30 [some (rf g 43), some (rf g 37), some (.int (nI n)), some (.int (nI o)), some (.int (sgF t n s.1)), none] [.int (nmF 1 (sgF t n s.1))] m (RS none (fun m' => CR 43 m0 m' (ptF t n 1 op fb fl s))) := by
    by_cases n1 : dgP (sgF t n s.1)
    · have e : ptF t n 1 op fb fl s = nuF t n s := by unfold ptF; rw [if_pos n1]
      have lt := sg_lt (t := t) (n := n) (p := s.1) (fun z => by rw [z] at n1; exact absurd n1.1 (by decide))
      rw [e]
      refine j_istore5 32 dX6_readPart_30 rfl rfl rfl ?_
      refine j_iload4 34 dX6_readPart_32 rfl ?_
      refine j_st1f 37 dX6_readPart_34 rfl rfl cl_X6_97 rfl (c_isDigit m _) ?_
      refine j_if_eq_bz 49 40 dX6_readPart_37 rfl rfl (fun h37 => absurd n1 h37) (fun h37 => ?_)
      refine j_aload0 41 dX6_readPart_40 rfl ?_
      refine j_aload1 42 dX6_readPart_41 rfl ?_
      refine j_iload2 43 dX6_readPart_42 rfl ?_
      refine j_vi2w 46 dX6_readPart_43 rfl rfl cl_X6_101 rfl rfl (c_number_43 m m0 s t n ht hn ok hp (by omega) h) (fun m43 q43 => ?_)
      refine j_goto 159 dX6_readPart_46 rfl ?_
      refine j_vret dX6_readPart_159 rfl ?_
      exact ⟨rfl, q43⟩
    · by_cases n2 : 0 ≤ nmF 1 (sgF t n s.1)
      · have e : ptF t n 1 op fb fl s = wrF (10000 + nmF 1 (sgF t n s.1)) (avF s) := by unfold ptF; rw [if_neg n1, if_pos n2]
        have lt := sg_lt (t := t) (n := n) (p := s.1) (fun z => by rw [z, nm_m1 (by decide)] at n2; exact absurd n2 (by decide))
        obtain ⟨k, k1, k2⟩ := nm_k n2
        rw [e]
        refine j_istore5 32 dX6_readPart_30 rfl rfl rfl ?_
        refine j_iload4 34 dX6_readPart_32 rfl ?_
        refine j_st1f 37 dX6_readPart_34 rfl rfl cl_X6_97 rfl (c_isDigit m _) ?_
        refine j_if_eq_bz 49 40 dX6_readPart_37 rfl rfl (fun h37 => ?_) (fun h37 => absurd h37 n1)
        refine j_iload5 51 dX6_readPart_49 rfl ?_
        refine j_if_lt 73 54 dX6_readPart_51 rfl rfl (fun h51 => absurd h51 (Int32.not_lt.mpr n2)) (fun h51 => ?_)
        refine j_aload0 55 dX6_readPart_54 rfl ?_
        refine j_dup 56 dX6_readPart_55 rfl rfl ?_
        refine j_getI 59 dX6_readPart_56 rfl fl_X6_62 rfl rfl ?_
        refine j_top e7 ?_
        refine j_iconst 60 (v := 1) dX6_readPart_59 rfl rfl ?_
        refine j_iadd 61 dX6_readPart_60 rfl ?_
        refine j_top (nI_1 s.1) ?_
        refine j_putI 64 dX6_readPart_61 rfl fp_X6_62 rfl rfl ?_
        refine j_aload0 65 dX6_readPart_64 rfl ?_
        refine j_iload5 67 dX6_readPart_65 rfl ?_
        refine j_top (show nmF 1 (sgF t n s.1) = encT (10000 + nmF 1 (sgF t n s.1)) by rw [k2]; exact enc_m k1) ?_
        refine j_vi1w 70 dX6_readPart_67 rfl rfl cl_X6_88 rfl rfl (c_write_43 _ m0 (avF s) _ (CR_av h) (fun _ => show s.2.1.length < 50 by omega)) (fun m67 q67 => ?_)
        refine j_goto 159 dX6_readPart_70 rfl ?_
        refine j_vret dX6_readPart_159 rfl ?_
        exact ⟨rfl, q67⟩
      · by_cases n3 : sgF t n s.1 = 33 ∧ op = true
        · have e : ptF t n 1 op fb fl s = wrF 20033 (fb (avF s)) := by unfold ptF; rw [if_neg n1, if_neg n2, if_pos n3]
          have lt := sg_lt (t := t) (n := n) (p := s.1) (by rw [n3.1]; decide)
          have o5 := hop.mp n3.2
          have gb := Gb n3.2 (avF s) ok lt
          rw [e]
          refine j_istore5 32 dX6_readPart_30 rfl rfl rfl ?_
          refine j_iload4 34 dX6_readPart_32 rfl ?_
          refine j_st1f 37 dX6_readPart_34 rfl rfl cl_X6_97 rfl (c_isDigit m _) ?_
          refine j_if_eq_bz 49 40 dX6_readPart_37 rfl rfl (fun h37 => ?_) (fun h37 => absurd h37 n1)
          refine j_iload5 51 dX6_readPart_49 rfl ?_
          refine j_if_lt 73 54 dX6_readPart_51 rfl rfl (fun h51 => ?_) (fun h51 => absurd (Int32.not_le.mp n2) h51)
          refine j_iload4 75 dX6_readPart_73 rfl ?_
          refine j_bipush 77 (v := 33) dX6_readPart_75 rfl rfl ?_
          refine j_cmp_ne 113 80 dX6_readPart_77 rfl rfl (fun h77 => absurd h77 (fun z => z n3.1)) (fun h77 => ?_)
          refine j_iload3 81 dX6_readPart_80 rfl ?_
          refine j_iconst 82 (v := 5) dX6_readPart_81 rfl rfl ?_
          refine j_cmp_ge 113 85 dX6_readPart_82 rfl rfl (fun h82 => absurd h82 (nI_ge (a := o) (b := 5) o5 (by decide))) (fun h82 => ?_)
          refine j_aload0 86 dX6_readPart_85 rfl ?_
          refine j_dup 87 dX6_readPart_86 rfl rfl ?_
          refine j_getI 90 dX6_readPart_87 rfl fl_X6_62 rfl rfl ?_
          refine j_top e7 ?_
          refine j_iconst 91 (v := 1) dX6_readPart_90 rfl rfl ?_
          refine j_iadd 92 dX6_readPart_91 rfl ?_
          refine j_top (nI_1 s.1) ?_
          refine j_putI 95 dX6_readPart_92 rfl fp_X6_62 rfl rfl ?_
          refine j_aload0 96 dX6_readPart_95 rfl ?_
          refine j_aload1 97 dX6_readPart_96 rfl ?_
          refine j_iload2 98 dX6_readPart_97 rfl ?_
          refine j_iload3 99 dX6_readPart_98 rfl ?_
          refine j_iconst 100 (v := nI 1) dX6_readPart_99 rfl rfl ?_
          refine j_iaddN 101 dX6_readPart_100 rfl ?_
          refine j_vi3w 104 dX6_readPart_101 rfl hEb cl_X6_76 rfl rfl (hb n3.2 _ (avF s) (CR_av h) ok lt (show s.2.1.length ≤ s.1 + 1 by omega)) (fun m101 q101 => ?_)
          refine j_aload0 105 dX6_readPart_104 rfl ?_
          refine j_iload4 107 dX6_readPart_105 rfl ?_
          refine j_top (show sgF t n s.1 = encT 20033 by rw [n3.1]; decide) ?_
          refine j_vi1w 110 dX6_readPart_107 rfl rfl cl_X6_88 rfl rfl (c_write_43 m101 m0 (fb (avF s)) 20033 q101 (fun _ => by have a := gb.2.2; have b := gb.2.1; have c : (fb (avF s)).2.1.length + (s.1 + 1) ≤ (fb (avF s)).1 + s.2.1.length := a; omega)) (fun m107 q107 => ?_)
          refine j_goto 159 dX6_readPart_110 rfl ?_
          refine j_vret dX6_readPart_159 rfl ?_
          exact ⟨rfl, q107⟩
        · refine j_istore5 32 dX6_readPart_30 rfl rfl rfl ?_
          refine j_iload4 34 dX6_readPart_32 rfl ?_
          refine j_st1f 37 dX6_readPart_34 rfl rfl cl_X6_97 rfl (c_isDigit m _) ?_
          refine j_if_eq_bz 49 40 dX6_readPart_37 rfl rfl (fun h37 => ?_) (fun h37 => absurd h37 n1)
          refine j_iload5 51 dX6_readPart_49 rfl ?_
          refine j_if_lt 73 54 dX6_readPart_51 rfl rfl (fun h51 => ?_) (fun h51 => absurd (Int32.not_le.mp n2) h51)
          refine j_iload4 75 dX6_readPart_73 rfl ?_
          refine j_bipush 77 (v := 33) dX6_readPart_75 rfl rfl ?_
          refine j_cmp_ne 113 80 dX6_readPart_77 rfl rfl (fun h77 => ?_) (fun h77 => ?_)
          · exact t113 _ n1 n2 n3
          · refine j_iload3 81 dX6_readPart_80 rfl ?_
            refine j_iconst 82 (v := 5) dX6_readPart_81 rfl rfl ?_
            refine j_cmp_ge 113 85 dX6_readPart_82 rfl rfl (fun h82 => ?_) (fun h82 => ?_)
            · exact t113 _ n1 n2 n3
            · exact absurd (show sgF t n s.1 = 33 ∧ op = true from And.intro h77 (hop.mpr (Nat.not_le.mp (fun z => h82 (nI_le (a := 5) (b := o) z (by omega)))))) n3
  rcases sg_nb hnb hn s.1 with hm | ⟨b, hb1, hb2⟩
  · have en : nmF 1 (sgF t n s.1) = -1 := by rw [hm]; exact nm_m1 (by decide)
    refine j_aload1 1 dX6_readPart_0 rfl ?_
    refine j_iload2 2 dX6_readPart_1 rfl ?_
    refine j_aload0 3 dX6_readPart_2 rfl ?_
    refine j_getI 6 dX6_readPart_3 rfl fl_X6_62 rfl rfl ?_
    refine j_top e7 ?_
    refine j_st3f 9 dX6_readPart_6 rfl rfl cl_X6_80 rfl (c_signAt m t n s.1 ht1 hn (by omega)) ?_
    refine j_istore4 11 dX6_readPart_9 rfl rfl rfl ?_
    refine j_iload4 13 dX6_readPart_11 rfl ?_
    refine j_if_ge 20 16 dX6_readPart_13 rfl rfl (fun h13 => absurd h13 (by rw [hm]; decide)) (fun h13 => ?_)
    refine j_iconst 17 (v := -1) dX6_readPart_16 rfl rfl ?_
    refine j_goto 30 dX6_readPart_17 rfl ?_
    rw [en] at t30
    exact t30
  · refine j_aload1 1 dX6_readPart_0 rfl ?_
    refine j_iload2 2 dX6_readPart_1 rfl ?_
    refine j_aload0 3 dX6_readPart_2 rfl ?_
    refine j_getI 6 dX6_readPart_3 rfl fl_X6_62 rfl rfl ?_
    refine j_top e7 ?_
    refine j_st3f 9 dX6_readPart_6 rfl rfl cl_X6_80 rfl (c_signAt m t n s.1 ht1 hn (by omega)) ?_
    refine j_istore4 11 dX6_readPart_9 rfl rfl rfl ?_
    refine j_iload4 13 dX6_readPart_11 rfl ?_
    refine j_if_ge 20 16 dX6_readPart_13 rfl rfl (fun h13 => ?_) (fun h13 => absurd (by rw [hb2]; exact nI_pos' (by omega)) h13)
    refine j_aload0 21 dX6_readPart_20 rfl ?_
    refine j_getR 24 dX6_readPart_21 rfl fl_X6_21 rfl rfl ?_
    refine j_iload4 26 dX6_readPart_24 rfl ?_
    refine j_i2c 27 dX6_readPart_26 rfl ?_
    refine j_top (show ((sgF t n s.1).toUInt32 % 65536).toInt32 = nI b by rw [hb2]; exact i2c_n hb1) ?_
    refine j_vS1 30 dX6_readPart_27 rfl rfl cv_X6_92 hO rfl (s_ix m _ v b 1 hb1 (by decide) hO hCo hVa hBy) ?_
    rw [show nmF 1 (sgF t n s.1) = ixF 1 b by rw [hb2]; rfl] at t30
    exact t30
set_option maxRecDepth 100000 in
theorem level5_43 (E n o : Nat) (m0 : Mem) (pf : PT → PT) (hpf : KP l g 43 E n o m0 pf) : KL l g 43 (E + 1) n 5 o m0 pf := by
  intro m s h ok hp hlen
  refine JM_of (ls := [some (rf g 43), some (rf g 37), some (.int (nI n)), some (.int (nI 5)), some (.int (nI o)), none, none, none]) pn_X6 rfl rfl ?_
  refine j_iload3 1 dX6_readLevel_0 rfl ?_
  refine j_iconst 2 (v := 5) dX6_readLevel_1 rfl rfl ?_
  refine j_cmp_lt 14 5 dX6_readLevel_2 rfl rfl (fun h2 => absurd h2 (by decide)) (fun h2 => ?_)
  refine j_aload0 6 dX6_readLevel_5 rfl ?_
  refine j_aload1 7 dX6_readLevel_6 rfl ?_
  refine j_iload2 8 dX6_readLevel_7 rfl ?_
  refine j_iload4 10 dX6_readLevel_8 rfl ?_
  refine j_vi3w 13 dX6_readLevel_10 rfl (blt_ok (Nat.lt_succ_self E)) cl_X6_76 rfl rfl (hpf m s h ok hp hlen) (fun m10 q10 => ?_)
  refine j_vret dX6_readLevel_13 rfl ?_
  exact ⟨rfl, q10⟩
set_option maxRecDepth 100000 in
theorem lvlp_43 {Q : Option Value → Mem → Prop} (E n v o : Nat) (m0 : Mem) (t : Nat → Int32) (sub : PT → PT) (ht : ∀ j, j < 50 → m0 37 j = t j) (hnb : ∀ j, j < 50 → nb (t j) 256) (hn : n ≤ 50) (hv : v ≤ 4) (Gs : GB n sub) (hsub : KL l g 43 (E + 6) n (v + 1) o m0 sub) (N : Nat) (hN : N ≤ 50) : ∀ (k i : Nat) (m : Mem) (s : PT) (o7 : Option Value), i + k = N → CR 43 m0 m s → s.1 ≤ n → s.2.1.length ≤ s.1 → (∀ m', CR 43 m0 m' (lpF t n (nI v) sub k s) → Q none m') → J l g (E + 7) mX6_readLevel 41 [some (rf g 43), some (rf g 37), some (.int (nI n)), some (.int (nI v)), some (.int (nI o)), some (.int (nI N)), some (.int (nI i)), o7] [] m Q := by
  intro k
  induction k with
  | zero =>
    intro i m s o7 e h hp hl kk
    have e : i = N := by omega
    subst e
    refine j_iload6 43 dX6_readLevel_41 rfl ?_
    refine j_iload5 45 dX6_readLevel_43 rfl ?_
    refine j_cmp_ge 109 48 dX6_readLevel_45 rfl rfl (fun h45 => ?_) (fun h45 => absurd (Int32.le_refl _) h45)
    refine j_vret dX6_readLevel_109 rfl ?_
    exact kk m h
  | succ k ih =>
    intro i m s o7 e h hp hl kk
    have e2 : nI i + 1 = nI (i + 1) := nI_1 i
    obtain ⟨e7, e8, -, hoo, -⟩ := id h
    have ht1 : ∀ j, j < 50 → m 37 j = t j := fun j hj => by rw [hoo 37 (by decide) (by decide)]; exact ht j hj
    by_cases ok : s.2.2 = true
    · rw [if_pos ok] at e8
      by_cases hv1 : lvO (sgF t n s.1) = nI v
      · have lt := lvl_lt hv hv1
        have gs := Gs (avF s) ok lt
        have g3 : (sub (avF s)).2.1.length + (s.1 + 1) ≤ (sub (avF s)).1 + s.2.1.length := gs.2.2
        obtain ⟨c, c1, c2, c3, c4⟩ := lv_c hv hv1
        have kk1 := kk
        rw [show lpF t n (nI v) sub (k + 1) s = lpF t n (nI v) sub k (wrF (20000 + sgF t n s.1) (sub (avF s))) from if_pos ⟨ok, hv1⟩] at kk1
        have wl := wr_len (20000 + sgF t n s.1) (sub (avF s))
        refine j_iload6 43 dX6_readLevel_41 rfl ?_
        refine j_iload5 45 dX6_readLevel_43 rfl ?_
        refine j_cmp_ge 109 48 dX6_readLevel_45 rfl rfl (fun h45 => absurd h45 (nI_ge (a := i) (b := N) (by omega) (by omega))) (fun h45 => ?_)
        refine j_aload0 49 dX6_readLevel_48 rfl ?_
        refine j_getI 52 dX6_readLevel_49 rfl fl_X6_68 rfl rfl ?_
        refine j_top e8 ?_
        refine j_if_ne 109 55 dX6_readLevel_52 rfl rfl (fun h52 => absurd h52 (fun q => q rfl)) (fun h52 => ?_)
        refine j_aload1 56 dX6_readLevel_55 rfl ?_
        refine j_iload2 57 dX6_readLevel_56 rfl ?_
        refine j_aload0 58 dX6_readLevel_57 rfl ?_
        refine j_getI 61 dX6_readLevel_58 rfl fl_X6_62 rfl rfl ?_
        refine j_top e7 ?_
        refine j_st3f 64 dX6_readLevel_61 rfl rfl cl_X6_80 rfl (c_signAt m t n s.1 ht1 hn (by omega)) ?_
        refine j_istore7 66 dX6_readLevel_64 rfl rfl rfl ?_
        refine j_iload7 68 dX6_readLevel_66 rfl ?_
        refine j_st1f 71 dX6_readLevel_68 rfl rfl cl_X6_84 rfl (c_levelOf m _) ?_
        refine j_iload3 72 dX6_readLevel_71 rfl ?_
        refine j_cmp_eq 76 75 dX6_readLevel_72 rfl rfl (fun h72 => ?_) (fun h72 => absurd hv1 h72)
        refine j_aload0 77 dX6_readLevel_76 rfl ?_
        refine j_dup 78 dX6_readLevel_77 rfl rfl ?_
        refine j_getI 81 dX6_readLevel_78 rfl fl_X6_62 rfl rfl ?_
        refine j_top e7 ?_
        refine j_iconst 82 (v := 1) dX6_readLevel_81 rfl rfl ?_
        refine j_iadd 83 dX6_readLevel_82 rfl ?_
        refine j_top (nI_1 s.1) ?_
        refine j_putI 86 dX6_readLevel_83 rfl fp_X6_62 rfl rfl ?_
        refine j_aload0 87 dX6_readLevel_86 rfl ?_
        refine j_aload1 88 dX6_readLevel_87 rfl ?_
        refine j_iload2 89 dX6_readLevel_88 rfl ?_
        refine j_iload3 90 dX6_readLevel_89 rfl ?_
        refine j_iconst 91 (v := nI 1) dX6_readLevel_90 rfl rfl ?_
        refine j_iaddN 92 dX6_readLevel_91 rfl ?_
        refine j_iload4 94 dX6_readLevel_92 rfl ?_
        refine j_vi4w 97 dX6_readLevel_94 rfl (blt_ok (Nat.lt_succ_self (E + 6))) cl_X6_72 rfl rfl (hsub _ (avF s) (CR_av h) ok lt (show s.2.1.length ≤ s.1 + 1 by omega)) (fun m94 q94 => ?_)
        refine j_aload0 98 dX6_readLevel_97 rfl ?_
        refine j_iload7 100 dX6_readLevel_98 rfl ?_
        refine j_top (show sgF t n s.1 = encT (20000 + sgF t n s.1) by rw [c4]; exact enc_s c2) ?_
        refine j_vi1w 103 dX6_readLevel_100 rfl rfl cl_X6_88 rfl rfl (c_write_43 m94 m0 (sub (avF s)) (20000 + sgF t n s.1) q94 (fun _ => by have := gs.2.1; omega)) (fun m100 q100 => ?_)
        refine j_iinc6 106 (1) dX6_readLevel_103 rfl rfl rfl rfl ?_
        refine j_goto 41 dX6_readLevel_106 rfl ?_
        rw [e2]
        exact ih (i + 1) m100 (wrF (20000 + sgF t n s.1) (sub (avF s))) _ (by omega) q100 (by rw [wr_1]; exact gs.2.1) (by rw [wr_1]; omega) kk1
      · have kk1 := kk
        rw [show lpF t n (nI v) sub (k + 1) s = s from if_neg (fun q => hv1 q.2)] at kk1
        refine j_iload6 43 dX6_readLevel_41 rfl ?_
        refine j_iload5 45 dX6_readLevel_43 rfl ?_
        refine j_cmp_ge 109 48 dX6_readLevel_45 rfl rfl (fun h45 => absurd h45 (nI_ge (a := i) (b := N) (by omega) (by omega))) (fun h45 => ?_)
        refine j_aload0 49 dX6_readLevel_48 rfl ?_
        refine j_getI 52 dX6_readLevel_49 rfl fl_X6_68 rfl rfl ?_
        refine j_top e8 ?_
        refine j_if_ne 109 55 dX6_readLevel_52 rfl rfl (fun h52 => absurd h52 (fun q => q rfl)) (fun h52 => ?_)
        refine j_aload1 56 dX6_readLevel_55 rfl ?_
        refine j_iload2 57 dX6_readLevel_56 rfl ?_
        refine j_aload0 58 dX6_readLevel_57 rfl ?_
        refine j_getI 61 dX6_readLevel_58 rfl fl_X6_62 rfl rfl ?_
        refine j_top e7 ?_
        refine j_st3f 64 dX6_readLevel_61 rfl rfl cl_X6_80 rfl (c_signAt m t n s.1 ht1 hn (by omega)) ?_
        refine j_istore7 66 dX6_readLevel_64 rfl rfl rfl ?_
        refine j_iload7 68 dX6_readLevel_66 rfl ?_
        refine j_st1f 71 dX6_readLevel_68 rfl rfl cl_X6_84 rfl (c_levelOf m _) ?_
        refine j_iload3 72 dX6_readLevel_71 rfl ?_
        refine j_cmp_eq 76 75 dX6_readLevel_72 rfl rfl (fun h72 => absurd h72 hv1) (fun h72 => ?_)
        refine j_vret dX6_readLevel_75 rfl ?_
        exact kk1 m h
    · rw [if_neg ok] at e8
      have kk1 := kk
      rw [show lpF t n (nI v) sub (k + 1) s = s from if_neg (fun q => ok q.1)] at kk1
      refine j_iload6 43 dX6_readLevel_41 rfl ?_
      refine j_iload5 45 dX6_readLevel_43 rfl ?_
      refine j_cmp_ge 109 48 dX6_readLevel_45 rfl rfl (fun h45 => absurd h45 (nI_ge (a := i) (b := N) (by omega) (by omega))) (fun h45 => ?_)
      refine j_aload0 49 dX6_readLevel_48 rfl ?_
      refine j_getI 52 dX6_readLevel_49 rfl fl_X6_68 rfl rfl ?_
      refine j_top e8 ?_
      refine j_if_ne 109 55 dX6_readLevel_52 rfl rfl (fun h52 => ?_) (fun h52 => absurd h52 (by decide))
      refine j_vret dX6_readLevel_109 rfl ?_
      exact kk1 m h
set_option maxRecDepth 100000 in
theorem level_43 (E n j o : Nat) (m0 : Mem) (t : Nat → Int32) (pf : PT → PT) (ht : ∀ j, j < 50 → m0 37 j = t j) (hnb : ∀ j, j < 50 → nb (t j) 256) (hn : n ≤ 50) (hj : j ≤ 4) (Gp : GB n pf) (hsub : KL l g 43 (E + 6) n (5 - j) o m0 (leF t n pf j)) : KL l g 43 (E + 7) n (4 - j) o m0 (leF t n pf (j + 1)) := by
  intro m s h ok hp hlen
  have Gs := GB_le (t := t) Gp j (by omega)
  have hsub1 : KL l g 43 (E + 6) n (4 - j + 1) o m0 (leF t n pf j) := by rw [show 4 - j + 1 = 5 - j by omega]; exact hsub
  have gs := Gs s ok hp
  refine JM_of (ls := [some (rf g 43), some (rf g 37), some (.int (nI n)), some (.int (nI (4 - j))), some (.int (nI o)), none, none, none]) pn_X6 rfl rfl ?_
  have tl : ∀ m1, CR 43 m0 m1 (leF t n pf j s) → J l g (E + 7) mX6_readLevel 36 [some (rf g 43), some (rf g 37), some (.int (nI n)), some (.int (nI (4 - j))), some (.int (nI o)), none, none, none] [.int (nI (fuL j))] m1 (RS none (fun m' => CR 43 m0 m' (leF t n pf (j + 1) s))) := by
    intro m1 h1
    refine j_istore5 38 dX6_readLevel_36 rfl rfl rfl ?_
    refine j_iconst 39 (v := 0) dX6_readLevel_38 rfl rfl ?_
    refine j_istore6 41 dX6_readLevel_39 rfl rfl rfl ?_
    exact lvlp_43 E n (4 - j) o m0 t (leF t n pf j) ht hnb hn (by omega) Gs hsub1 (fuL j) (by unfold fuL; split <;> omega) (fuL j) 0 m1 (leF t n pf j s) none (Nat.zero_add _) h1 gs.2.1 (by omega) (fun m' q => ⟨rfl, q⟩)
  by_cases q2 : j = 2
  · subst q2
    refine j_iload3 1 dX6_readLevel_0 rfl ?_
    refine j_iconst 2 (v := 5) dX6_readLevel_1 rfl rfl ?_
    refine j_cmp_lt 14 5 dX6_readLevel_2 rfl rfl (fun h2 => ?_) (fun h2 => absurd (by decide) h2)
    refine j_aload0 15 dX6_readLevel_14 rfl ?_
    refine j_aload1 16 dX6_readLevel_15 rfl ?_
    refine j_iload2 17 dX6_readLevel_16 rfl ?_
    refine j_iload3 18 dX6_readLevel_17 rfl ?_
    refine j_iconst 19 (v := nI 1) dX6_readLevel_18 rfl rfl ?_
    refine j_iaddN 20 dX6_readLevel_19 rfl ?_
    refine j_iload4 22 dX6_readLevel_20 rfl ?_
    refine j_vi4w 25 dX6_readLevel_22 rfl (blt_ok (Nat.lt_succ_self (E + 6))) cl_X6_72 rfl rfl (hsub1 m s h ok hp hlen) (fun m22 q22 => ?_)
    refine j_iload3 26 dX6_readLevel_25 rfl ?_
    refine j_iconst 27 (v := 2) dX6_readLevel_26 rfl rfl ?_
    refine j_cmp_ne 34 30 dX6_readLevel_27 rfl rfl (fun h27 => absurd h27 (fun q => q (by decide))) (fun h27 => ?_)
    refine j_iconst 31 (v := 1) dX6_readLevel_30 rfl rfl ?_
    refine j_goto 36 dX6_readLevel_31 rfl ?_
    exact tl m22 q22
  · have f : nI (fuL j) = 50 := by unfold fuL; rw [if_neg q2]; rfl
    rw [f] at tl
    refine j_iload3 1 dX6_readLevel_0 rfl ?_
    refine j_iconst 2 (v := 5) dX6_readLevel_1 rfl rfl ?_
    refine j_cmp_lt 14 5 dX6_readLevel_2 rfl rfl (fun h2 => ?_) (fun h2 => absurd (show nI (4 - j) < 5 from nI_lt (a := 4 - j) (b := 5) (by omega) (by decide)) h2)
    refine j_aload0 15 dX6_readLevel_14 rfl ?_
    refine j_aload1 16 dX6_readLevel_15 rfl ?_
    refine j_iload2 17 dX6_readLevel_16 rfl ?_
    refine j_iload3 18 dX6_readLevel_17 rfl ?_
    refine j_iconst 19 (v := nI 1) dX6_readLevel_18 rfl rfl ?_
    refine j_iaddN 20 dX6_readLevel_19 rfl ?_
    refine j_iload4 22 dX6_readLevel_20 rfl ?_
    refine j_vi4w 25 dX6_readLevel_22 rfl (blt_ok (Nat.lt_succ_self (E + 6))) cl_X6_72 rfl rfl (hsub1 m s h ok hp hlen) (fun m22 q22 => ?_)
    refine j_iload3 26 dX6_readLevel_25 rfl ?_
    refine j_iconst 27 (v := 2) dX6_readLevel_26 rfl rfl ?_
    refine j_cmp_ne 34 30 dX6_readLevel_27 rfl rfl (fun h27 => ?_) (fun h27 => absurd h27 (fun q => q2 (by have := (nI_eq (a := 4 - j) (b := 2) (by omega) (by decide)).mp q; omega)))
    refine j_bipush 36 (v := 50) dX6_readLevel_34 rfl rfl ?_
    exact tl m22 q22
end O34
