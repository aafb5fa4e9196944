/-- the class's Papers at cell p is the row d -/
def PR (p : Nat) (m : Mem) (d : Nat → Int32) : Prop := m p 4 = d 6 ∧ m p 5 = d 7 ∧ m p 6 = d 5 ∧ (∀ i, i < 50 → m (p + 1) i = d (210 + i)) ∧ (∀ i, i < 20 → m (p + 2) i = d (90 + i)) ∧ LR m (p + 3) d 0 ∧ LR m (p + 7) d 1
theorem cpy_s {m : Mem} {a b n k : Nat} (h : k < n) : cpy m a b 0 0 n b k = m a k := by
  unfold cpy
  rw [upR_s]
  show (if 0 ≤ k ∧ k < 0 + n then m a (0 + (k - 0)) else m b k) = m a k
  rw [if_pos ⟨by omega, by omega⟩]
  congr 1
  omega
theorem cpy_n {m : Mem} {a b n c : Nat} (h : c ≠ b) : cpy m a b 0 0 n c = m c := upR_n h
theorem Sm.cpy {S : List Nat} {m m' : Mem} {a b n : Nat} (h : Sm S m m') (hb : b ∈ S) : Sm S m (cpy m' a b 0 0 n) := h.row hb
section CP
variable {l : Launch} {g : Gv}
set_option maxRecDepth 100000 in
theorem c_copy_18_9 (m : Mem) : JM l g 1 mX10_copy [rf g 18, rf g 9] m (RS none (fun m' => (∀ d, TR 9 m d → TR 18 m' d) ∧ Sm [18, 19, 20, 21, 22, 23, 24, 25, 26] m m')) := by
  refine JM_of (ls := [some (rf g 18), some (rf g 9)]) pn_X10 rfl rfl ?_
  refine j_aload1 1 dX10_copy_0 rfl ?_
  refine j_getR 4 dX10_copy_1 rfl fl_X10_9 rfl rfl ?_
  refine j_iconst 5 (v := 0) dX10_copy_4 rfl rfl ?_
  refine j_aload0 6 dX10_copy_5 rfl ?_
  refine j_getR 9 dX10_copy_6 rfl fl_X10_9 rfl rfl ?_
  refine j_iconst 10 (v := 0) dX10_copy_9 rfl rfl ?_
  refine j_bipush 12 (v := 16) dX10_copy_10 rfl rfl ?_
  refine j_copy 15 0 0 16 rfl rfl rfl (by decide) (by decide) dX10_copy_12 rfl rfl ac_X10_47 rfl rfl rfl ?_
  refine j_aload1 16 dX10_copy_15 rfl ?_
  refine j_getR 19 dX10_copy_16 rfl fl_X10_15 rfl rfl ?_
  refine j_iconst 20 (v := 0) dX10_copy_19 rfl rfl ?_
  refine j_aload0 21 dX10_copy_20 rfl ?_
  refine j_getR 24 dX10_copy_21 rfl fl_X10_15 rfl rfl ?_
  refine j_iconst 25 (v := 0) dX10_copy_24 rfl rfl ?_
  refine j_bipush 27 (v := 16) dX10_copy_25 rfl rfl ?_
  refine j_copy 30 0 0 16 rfl rfl rfl (by decide) (by decide) dX10_copy_27 rfl rfl ac_X10_47 rfl rfl rfl ?_
  refine j_aload1 31 dX10_copy_30 rfl ?_
  refine j_getR 34 dX10_copy_31 rfl fl_X10_18 rfl rfl ?_
  refine j_iconst 35 (v := 0) dX10_copy_34 rfl rfl ?_
  refine j_aload0 36 dX10_copy_35 rfl ?_
  refine j_getR 39 dX10_copy_36 rfl fl_X10_18 rfl rfl ?_
  refine j_iconst 40 (v := 0) dX10_copy_39 rfl rfl ?_
  refine j_bipush 42 (v := 8) dX10_copy_40 rfl rfl ?_
  refine j_copy 45 0 0 8 rfl rfl rfl (by decide) (by decide) dX10_copy_42 rfl rfl ac_X10_47 rfl rfl rfl ?_
  refine j_aload1 46 dX10_copy_45 rfl ?_
  refine j_getR 49 dX10_copy_46 rfl fl_X10_21 rfl rfl ?_
  refine j_iconst 50 (v := 0) dX10_copy_49 rfl rfl ?_
  refine j_aload0 51 dX10_copy_50 rfl ?_
  refine j_getR 54 dX10_copy_51 rfl fl_X10_21 rfl rfl ?_
  refine j_iconst 55 (v := 0) dX10_copy_54 rfl rfl ?_
  refine j_bipush 57 (v := 8) dX10_copy_55 rfl rfl ?_
  refine j_copy 60 0 0 8 rfl rfl rfl (by decide) (by decide) dX10_copy_57 rfl rfl ac_X10_47 rfl rfl rfl ?_
  refine j_aload1 61 dX10_copy_60 rfl ?_
  refine j_getR 64 dX10_copy_61 rfl fl_X10_24 rfl rfl ?_
  refine j_iconst 65 (v := 0) dX10_copy_64 rfl rfl ?_
  refine j_aload0 66 dX10_copy_65 rfl ?_
  refine j_getR 69 dX10_copy_66 rfl fl_X10_24 rfl rfl ?_
  refine j_iconst 70 (v := 0) dX10_copy_69 rfl rfl ?_
  refine j_bipush 72 (v := 8) dX10_copy_70 rfl rfl ?_
  refine j_copy 75 0 0 8 rfl rfl rfl (by decide) (by decide) dX10_copy_72 rfl rfl ac_X10_47 rfl rfl rfl ?_
  refine j_aload1 76 dX10_copy_75 rfl ?_
  refine j_getR 79 dX10_copy_76 rfl fl_X10_27 rfl rfl ?_
  refine j_iconst 80 (v := 0) dX10_copy_79 rfl rfl ?_
  refine j_aload0 81 dX10_copy_80 rfl ?_
  refine j_getR 84 dX10_copy_81 rfl fl_X10_27 rfl rfl ?_
  refine j_iconst 85 (v := 0) dX10_copy_84 rfl rfl ?_
  refine j_bipush 87 (v := 8) dX10_copy_85 rfl rfl ?_
  refine j_copy 90 0 0 8 rfl rfl rfl (by decide) (by decide) dX10_copy_87 rfl rfl ac_X10_47 rfl rfl rfl ?_
  refine j_aload1 91 dX10_copy_90 rfl ?_
  refine j_getR 94 dX10_copy_91 rfl fl_X10_30 rfl rfl ?_
  refine j_iconst 95 (v := 0) dX10_copy_94 rfl rfl ?_
  refine j_aload0 96 dX10_copy_95 rfl ?_
  refine j_getR 99 dX10_copy_96 rfl fl_X10_30 rfl rfl ?_
  refine j_iconst 100 (v := 0) dX10_copy_99 rfl rfl ?_
  refine j_bipush 102 (v := 8) dX10_copy_100 rfl rfl ?_
  refine j_copy 105 0 0 8 rfl rfl rfl (by decide) (by decide) dX10_copy_102 rfl rfl ac_X10_47 rfl rfl rfl ?_
  refine j_aload1 106 dX10_copy_105 rfl ?_
  refine j_getR 109 dX10_copy_106 rfl fl_X10_33 rfl rfl ?_
  refine j_iconst 110 (v := 0) dX10_copy_109 rfl rfl ?_
  refine j_aload0 111 dX10_copy_110 rfl ?_
  refine j_getR 114 dX10_copy_111 rfl fl_X10_33 rfl rfl ?_
  refine j_iconst 115 (v := 0) dX10_copy_114 rfl rfl ?_
  refine j_bipush 117 (v := 8) dX10_copy_115 rfl rfl ?_
  refine j_copy 120 0 0 8 rfl rfl rfl (by decide) (by decide) dX10_copy_117 rfl rfl ac_X10_47 rfl rfl rfl ?_
  refine j_aload0 121 dX10_copy_120 rfl ?_
  refine j_aload1 122 dX10_copy_121 rfl ?_
  refine j_getI 125 dX10_copy_122 rfl fl_X10_53 rfl rfl ?_
  refine j_putI 128 dX10_copy_125 rfl fp_X10_53 rfl rfl ?_
  refine j_aload0 129 dX10_copy_128 rfl ?_
  refine j_aload1 130 dX10_copy_129 rfl ?_
  refine j_getI 133 dX10_copy_130 rfl fl_X10_36 rfl rfl ?_
  refine j_putI 136 dX10_copy_133 rfl fp_X10_36 rfl rfl ?_
  refine j_aload0 137 dX10_copy_136 rfl ?_
  refine j_aload1 138 dX10_copy_137 rfl ?_
  refine j_getI 141 dX10_copy_138 rfl fl_X10_40 rfl rfl ?_
  refine j_putI 144 dX10_copy_141 rfl fp_X10_40 rfl rfl ?_
  refine j_aload0 145 dX10_copy_144 rfl ?_
  refine j_aload1 146 dX10_copy_145 rfl ?_
  refine j_getI 149 dX10_copy_146 rfl fl_X10_56 rfl rfl ?_
  refine j_putI 152 dX10_copy_149 rfl fp_X10_56 rfl rfl ?_
  refine j_aload0 153 dX10_copy_152 rfl ?_
  refine j_aload1 154 dX10_copy_153 rfl ?_
  refine j_getI 157 dX10_copy_154 rfl fl_X10_59 rfl rfl ?_
  refine j_putI 160 dX10_copy_157 rfl fp_X10_59 rfl rfl ?_
  refine j_vret dX10_copy_160 rfl ?_
  refine ⟨rfl, fun d h => ?_, (((((((((((((Sm.rf.cpy (by decide)).cpy (by decide)).cpy (by decide)).cpy (by decide)).cpy (by decide)).cpy (by decide)).cpy (by decide)).cpy (by decide)).up (by decide)).up (by decide)).up (by decide)).up (by decide)).up (by decide))⟩
  obtain ⟨t9, t10, t11, t12, t13, ts, tt, th⟩ := h
  refine ⟨?_, ?_, ?_, ?_, ?_, fun i hi => ?_, fun i hi => ?_, fun i hi r hr => ?_⟩
  · rw [up2_k (by decide), up2_k (by decide), up2_k (by decide), up2_k (by decide), up2_s, cpy_n (by decide), cpy_n (by decide), cpy_n (by decide), cpy_n (by decide), cpy_n (by decide), cpy_n (by decide), cpy_n (by decide), cpy_n (by decide)]; exact t9
  · rw [up2_k (by decide), up2_k (by decide), up2_k (by decide), up2_s, up2_a (by decide), cpy_n (by decide), cpy_n (by decide), cpy_n (by decide), cpy_n (by decide), cpy_n (by decide), cpy_n (by decide), cpy_n (by decide), cpy_n (by decide)]; exact t10
  · rw [up2_k (by decide), up2_k (by decide), up2_s, up2_a (by decide), up2_a (by decide), cpy_n (by decide), cpy_n (by decide), cpy_n (by decide), cpy_n (by decide), cpy_n (by decide), cpy_n (by decide), cpy_n (by decide), cpy_n (by decide)]; exact t11
  · rw [up2_k (by decide), up2_s, up2_a (by decide), up2_a (by decide), up2_a (by decide), cpy_n (by decide), cpy_n (by decide), cpy_n (by decide), cpy_n (by decide), cpy_n (by decide), cpy_n (by decide), cpy_n (by decide), cpy_n (by decide)]; exact t12
  · rw [up2_s, up2_a (by decide), up2_a (by decide), up2_a (by decide), up2_a (by decide), cpy_n (by decide), cpy_n (by decide), cpy_n (by decide), cpy_n (by decide), cpy_n (by decide), cpy_n (by decide), cpy_n (by decide), cpy_n (by decide)]; exact t13
  · rw [up2_a (by decide), up2_a (by decide), up2_a (by decide), up2_a (by decide), up2_a (by decide), cpy_n (by decide), cpy_n (by decide), cpy_n (by decide), cpy_n (by decide), cpy_n (by decide), cpy_n (by decide), cpy_n (by decide), cpy_s hi]; exact ts i hi
  · rw [up2_a (by decide), up2_a (by decide), up2_a (by decide), up2_a (by decide), up2_a (by decide), cpy_n (by decide), cpy_n (by decide), cpy_n (by decide), cpy_n (by decide), cpy_n (by decide), cpy_n (by decide), cpy_s hi, cpy_n (by decide)]; exact tt i hi
  · have h6 := th i hi r hr
    rcases (show r = 0 ∨ r = 1 ∨ r = 2 ∨ r = 3 ∨ r = 4 ∨ r = 5 by omega) with rfl | rfl | rfl | rfl | rfl | rfl
    · rw [up2_a (by decide), up2_a (by decide), up2_a (by decide), up2_a (by decide), up2_a (by decide), cpy_n (by decide), cpy_n (by decide), cpy_n (by decide), cpy_n (by decide), cpy_n (by decide), cpy_s hi, cpy_n (by decide), cpy_n (by decide)]; exact h6
    · rw [up2_a (by decide), up2_a (by decide), up2_a (by decide), up2_a (by decide), up2_a (by decide), cpy_n (by decide), cpy_n (by decide), cpy_n (by decide), cpy_n (by decide), cpy_s hi, cpy_n (by decide), cpy_n (by decide), cpy_n (by decide)]; exact h6
    · rw [up2_a (by decide), up2_a (by decide), up2_a (by decide), up2_a (by decide), up2_a (by decide), cpy_n (by decide), cpy_n (by decide), cpy_n (by decide), cpy_s hi, cpy_n (by decide), cpy_n (by decide), cpy_n (by decide), cpy_n (by decide)]; exact h6
    · rw [up2_a (by decide), up2_a (by decide), up2_a (by decide), up2_a (by decide), up2_a (by decide), cpy_n (by decide), cpy_n (by decide), cpy_s hi, cpy_n (by decide), cpy_n (by decide), cpy_n (by decide), cpy_n (by decide), cpy_n (by decide)]; exact h6
    · rw [up2_a (by decide), up2_a (by decide), up2_a (by decide), up2_a (by decide), up2_a (by decide), cpy_n (by decide), cpy_s hi, cpy_n (by decide), cpy_n (by decide), cpy_n (by decide), cpy_n (by decide), cpy_n (by decide), cpy_n (by decide)]; exact h6
    · rw [up2_a (by decide), up2_a (by decide), up2_a (by decide), up2_a (by decide), up2_a (by decide), cpy_s hi, cpy_n (by decide), cpy_n (by decide), cpy_n (by decide), cpy_n (by decide), cpy_n (by decide), cpy_n (by decide), cpy_n (by decide)]; exact h6
set_option maxRecDepth 100000 in
theorem c_copy_27_9 (m : Mem) : JM l g 1 mX10_copy [rf g 27, rf g 9] m (RS none (fun m' => (∀ d, TR 9 m d → TR 27 m' d) ∧ Sm [27, 28, 29, 30, 31, 32, 33, 34, 35] m m')) := by
  refine JM_of (ls := [some (rf g 27), some (rf g 9)]) pn_X10 rfl rfl ?_
  refine j_aload1 1 dX10_copy_0 rfl ?_
  refine j_getR 4 dX10_copy_1 rfl fl_X10_9 rfl rfl ?_
  refine j_iconst 5 (v := 0) dX10_copy_4 rfl rfl ?_
  refine j_aload0 6 dX10_copy_5 rfl ?_
  refine j_getR 9 dX10_copy_6 rfl fl_X10_9 rfl rfl ?_
  refine j_iconst 10 (v := 0) dX10_copy_9 rfl rfl ?_
  refine j_bipush 12 (v := 16) dX10_copy_10 rfl rfl ?_
  refine j_copy 15 0 0 16 rfl rfl rfl (by decide) (by decide) dX10_copy_12 rfl rfl ac_X10_47 rfl rfl rfl ?_
  refine j_aload1 16 dX10_copy_15 rfl ?_
  refine j_getR 19 dX10_copy_16 rfl fl_X10_15 rfl rfl ?_
  refine j_iconst 20 (v := 0) dX10_copy_19 rfl rfl ?_
  refine j_aload0 21 dX10_copy_20 rfl ?_
  refine j_getR 24 dX10_copy_21 rfl fl_X10_15 rfl rfl ?_
  refine j_iconst 25 (v := 0) dX10_copy_24 rfl rfl ?_
  refine j_bipush 27 (v := 16) dX10_copy_25 rfl rfl ?_
  refine j_copy 30 0 0 16 rfl rfl rfl (by decide) (by decide) dX10_copy_27 rfl rfl ac_X10_47 rfl rfl rfl ?_
  refine j_aload1 31 dX10_copy_30 rfl ?_
  refine j_getR 34 dX10_copy_31 rfl fl_X10_18 rfl rfl ?_
  refine j_iconst 35 (v := 0) dX10_copy_34 rfl rfl ?_
  refine j_aload0 36 dX10_copy_35 rfl ?_
  refine j_getR 39 dX10_copy_36 rfl fl_X10_18 rfl rfl ?_
  refine j_iconst 40 (v := 0) dX10_copy_39 rfl rfl ?_
  refine j_bipush 42 (v := 8) dX10_copy_40 rfl rfl ?_
  refine j_copy 45 0 0 8 rfl rfl rfl (by decide) (by decide) dX10_copy_42 rfl rfl ac_X10_47 rfl rfl rfl ?_
  refine j_aload1 46 dX10_copy_45 rfl ?_
  refine j_getR 49 dX10_copy_46 rfl fl_X10_21 rfl rfl ?_
  refine j_iconst 50 (v := 0) dX10_copy_49 rfl rfl ?_
  refine j_aload0 51 dX10_copy_50 rfl ?_
  refine j_getR 54 dX10_copy_51 rfl fl_X10_21 rfl rfl ?_
  refine j_iconst 55 (v := 0) dX10_copy_54 rfl rfl ?_
  refine j_bipush 57 (v := 8) dX10_copy_55 rfl rfl ?_
  refine j_copy 60 0 0 8 rfl rfl rfl (by decide) (by decide) dX10_copy_57 rfl rfl ac_X10_47 rfl rfl rfl ?_
  refine j_aload1 61 dX10_copy_60 rfl ?_
  refine j_getR 64 dX10_copy_61 rfl fl_X10_24 rfl rfl ?_
  refine j_iconst 65 (v := 0) dX10_copy_64 rfl rfl ?_
  refine j_aload0 66 dX10_copy_65 rfl ?_
  refine j_getR 69 dX10_copy_66 rfl fl_X10_24 rfl rfl ?_
  refine j_iconst 70 (v := 0) dX10_copy_69 rfl rfl ?_
  refine j_bipush 72 (v := 8) dX10_copy_70 rfl rfl ?_
  refine j_copy 75 0 0 8 rfl rfl rfl (by decide) (by decide) dX10_copy_72 rfl rfl ac_X10_47 rfl rfl rfl ?_
  refine j_aload1 76 dX10_copy_75 rfl ?_
  refine j_getR 79 dX10_copy_76 rfl fl_X10_27 rfl rfl ?_
  refine j_iconst 80 (v := 0) dX10_copy_79 rfl rfl ?_
  refine j_aload0 81 dX10_copy_80 rfl ?_
  refine j_getR 84 dX10_copy_81 rfl fl_X10_27 rfl rfl ?_
  refine j_iconst 85 (v := 0) dX10_copy_84 rfl rfl ?_
  refine j_bipush 87 (v := 8) dX10_copy_85 rfl rfl ?_
  refine j_copy 90 0 0 8 rfl rfl rfl (by decide) (by decide) dX10_copy_87 rfl rfl ac_X10_47 rfl rfl rfl ?_
  refine j_aload1 91 dX10_copy_90 rfl ?_
  refine j_getR 94 dX10_copy_91 rfl fl_X10_30 rfl rfl ?_
  refine j_iconst 95 (v := 0) dX10_copy_94 rfl rfl ?_
  refine j_aload0 96 dX10_copy_95 rfl ?_
  refine j_getR 99 dX10_copy_96 rfl fl_X10_30 rfl rfl ?_
  refine j_iconst 100 (v := 0) dX10_copy_99 rfl rfl ?_
  refine j_bipush 102 (v := 8) dX10_copy_100 rfl rfl ?_
  refine j_copy 105 0 0 8 rfl rfl rfl (by decide) (by decide) dX10_copy_102 rfl rfl ac_X10_47 rfl rfl rfl ?_
  refine j_aload1 106 dX10_copy_105 rfl ?_
  refine j_getR 109 dX10_copy_106 rfl fl_X10_33 rfl rfl ?_
  refine j_iconst 110 (v := 0) dX10_copy_109 rfl rfl ?_
  refine j_aload0 111 dX10_copy_110 rfl ?_
  refine j_getR 114 dX10_copy_111 rfl fl_X10_33 rfl rfl ?_
  refine j_iconst 115 (v := 0) dX10_copy_114 rfl rfl ?_
  refine j_bipush 117 (v := 8) dX10_copy_115 rfl rfl ?_
  refine j_copy 120 0 0 8 rfl rfl rfl (by decide) (by decide) dX10_copy_117 rfl rfl ac_X10_47 rfl rfl rfl ?_
  refine j_aload0 121 dX10_copy_120 rfl ?_
  refine j_aload1 122 dX10_copy_121 rfl ?_
  refine j_getI 125 dX10_copy_122 rfl fl_X10_53 rfl rfl ?_
  refine j_putI 128 dX10_copy_125 rfl fp_X10_53 rfl rfl ?_
  refine j_aload0 129 dX10_copy_128 rfl ?_
  refine j_aload1 130 dX10_copy_129 rfl ?_
  refine j_getI 133 dX10_copy_130 rfl fl_X10_36 rfl rfl ?_
  refine j_putI 136 dX10_copy_133 rfl fp_X10_36 rfl rfl ?_
  refine j_aload0 137 dX10_copy_136 rfl ?_
  refine j_aload1 138 dX10_copy_137 rfl ?_
  refine j_getI 141 dX10_copy_138 rfl fl_X10_40 rfl rfl ?_
  refine j_putI 144 dX10_copy_141 rfl fp_X10_40 rfl rfl ?_
  refine j_aload0 145 dX10_copy_144 rfl ?_
  refine j_aload1 146 dX10_copy_145 rfl ?_
  refine j_getI 149 dX10_copy_146 rfl fl_X10_56 rfl rfl ?_
  refine j_putI 152 dX10_copy_149 rfl fp_X10_56 rfl rfl ?_
  refine j_aload0 153 dX10_copy_152 rfl ?_
  refine j_aload1 154 dX10_copy_153 rfl ?_
  refine j_getI 157 dX10_copy_154 rfl fl_X10_59 rfl rfl ?_
  refine j_putI 160 dX10_copy_157 rfl fp_X10_59 rfl rfl ?_
  refine j_vret dX10_copy_160 rfl ?_
  refine ⟨rfl, fun d h => ?_, (((((((((((((Sm.rf.cpy (by decide)).cpy (by decide)).cpy (by decide)).cpy (by decide)).cpy (by decide)).cpy (by decide)).cpy (by decide)).cpy (by decide)).up (by decide)).up (by decide)).up (by decide)).up (by decide)).up (by decide))⟩
  obtain ⟨t9, t10, t11, t12, t13, ts, tt, th⟩ := h
  refine ⟨?_, ?_, ?_, ?_, ?_, fun i hi => ?_, fun i hi => ?_, fun i hi r hr => ?_⟩
  · rw [up2_k (by decide), up2_k (by decide), up2_k (by decide), up2_k (by decide), up2_s, cpy_n (by decide), cpy_n (by decide), cpy_n (by decide), cpy_n (by decide), cpy_n (by decide), cpy_n (by decide), cpy_n (by decide), cpy_n (by decide)]; exact t9
  · rw [up2_k (by decide), up2_k (by decide), up2_k (by decide), up2_s, up2_a (by decide), cpy_n (by decide), cpy_n (by decide), cpy_n (by decide), cpy_n (by decide), cpy_n (by decide), cpy_n (by decide), cpy_n (by decide), cpy_n (by decide)]; exact t10
  · rw [up2_k (by decide), up2_k (by decide), up2_s, up2_a (by decide), up2_a (by decide), cpy_n (by decide), cpy_n (by decide), cpy_n (by decide), cpy_n (by decide), cpy_n (by decide), cpy_n (by decide), cpy_n (by decide), cpy_n (by decide)]; exact t11
  · rw [up2_k (by decide), up2_s, up2_a (by decide), up2_a (by decide), up2_a (by decide), cpy_n (by decide), cpy_n (by decide), cpy_n (by decide), cpy_n (by decide), cpy_n (by decide), cpy_n (by decide), cpy_n (by decide), cpy_n (by decide)]; exact t12
  · rw [up2_s, up2_a (by decide), up2_a (by decide), up2_a (by decide), up2_a (by decide), cpy_n (by decide), cpy_n (by decide), cpy_n (by decide), cpy_n (by decide), cpy_n (by decide), cpy_n (by decide), cpy_n (by decide), cpy_n (by decide)]; exact t13
  · rw [up2_a (by decide), up2_a (by decide), up2_a (by decide), up2_a (by decide), up2_a (by decide), cpy_n (by decide), cpy_n (by decide), cpy_n (by decide), cpy_n (by decide), cpy_n (by decide), cpy_n (by decide), cpy_n (by decide), cpy_s hi]; exact ts i hi
  · rw [up2_a (by decide), up2_a (by decide), up2_a (by decide), up2_a (by decide), up2_a (by decide), cpy_n (by decide), cpy_n (by decide), cpy_n (by decide), cpy_n (by decide), cpy_n (by decide), cpy_n (by decide), cpy_s hi, cpy_n (by decide)]; exact tt i hi
  · have h6 := th i hi r hr
    rcases (show r = 0 ∨ r = 1 ∨ r = 2 ∨ r = 3 ∨ r = 4 ∨ r = 5 by omega) with rfl | rfl | rfl | rfl | rfl | rfl
    · rw [up2_a (by decide), up2_a (by decide), up2_a (by decide), up2_a (by decide), up2_a (by decide), cpy_n (by decide), cpy_n (by decide), cpy_n (by decide), cpy_n (by decide), cpy_n (by decide), cpy_s hi, cpy_n (by decide), cpy_n (by decide)]; exact h6
    · rw [up2_a (by decide), up2_a (by decide), up2_a (by decide), up2_a (by decide), up2_a (by decide), cpy_n (by decide), cpy_n (by decide), cpy_n (by decide), cpy_n (by decide), cpy_s hi, cpy_n (by decide), cpy_n (by decide), cpy_n (by decide)]; exact h6
    · rw [up2_a (by decide), up2_a (by decide), up2_a (by decide), up2_a (by decide), up2_a (by decide), cpy_n (by decide), cpy_n (by decide), cpy_n (by decide), cpy_s hi, cpy_n (by decide), cpy_n (by decide), cpy_n (by decide), cpy_n (by decide)]; exact h6
    · rw [up2_a (by decide), up2_a (by decide), up2_a (by decide), up2_a (by decide), up2_a (by decide), cpy_n (by decide), cpy_n (by decide), cpy_s hi, cpy_n (by decide), cpy_n (by decide), cpy_n (by decide), cpy_n (by decide), cpy_n (by decide)]; exact h6
    · rw [up2_a (by decide), up2_a (by decide), up2_a (by decide), up2_a (by decide), up2_a (by decide), cpy_n (by decide), cpy_s hi, cpy_n (by decide), cpy_n (by decide), cpy_n (by decide), cpy_n (by decide), cpy_n (by decide), cpy_n (by decide)]; exact h6
    · rw [up2_a (by decide), up2_a (by decide), up2_a (by decide), up2_a (by decide), up2_a (by decide), cpy_s hi, cpy_n (by decide), cpy_n (by decide), cpy_n (by decide), cpy_n (by decide), cpy_n (by decide), cpy_n (by decide), cpy_n (by decide)]; exact h6
set_option maxRecDepth 100000 in
theorem c_copy_9_27 (m : Mem) : JM l g 1 mX10_copy [rf g 9, rf g 27] m (RS none (fun m' => (∀ d, TR 27 m d → TR 9 m' d) ∧ Sm [9, 10, 11, 12, 13, 14, 15, 16, 17] m m')) := by
  refine JM_of (ls := [some (rf g 9), some (rf g 27)]) pn_X10 rfl rfl ?_
  refine j_aload1 1 dX10_copy_0 rfl ?_
  refine j_getR 4 dX10_copy_1 rfl fl_X10_9 rfl rfl ?_
  refine j_iconst 5 (v := 0) dX10_copy_4 rfl rfl ?_
  refine j_aload0 6 dX10_copy_5 rfl ?_
  refine j_getR 9 dX10_copy_6 rfl fl_X10_9 rfl rfl ?_
  refine j_iconst 10 (v := 0) dX10_copy_9 rfl rfl ?_
  refine j_bipush 12 (v := 16) dX10_copy_10 rfl rfl ?_
  refine j_copy 15 0 0 16 rfl rfl rfl (by decide) (by decide) dX10_copy_12 rfl rfl ac_X10_47 rfl rfl rfl ?_
  refine j_aload1 16 dX10_copy_15 rfl ?_
  refine j_getR 19 dX10_copy_16 rfl fl_X10_15 rfl rfl ?_
  refine j_iconst 20 (v := 0) dX10_copy_19 rfl rfl ?_
  refine j_aload0 21 dX10_copy_20 rfl ?_
  refine j_getR 24 dX10_copy_21 rfl fl_X10_15 rfl rfl ?_
  refine j_iconst 25 (v := 0) dX10_copy_24 rfl rfl ?_
  refine j_bipush 27 (v := 16) dX10_copy_25 rfl rfl ?_
  refine j_copy 30 0 0 16 rfl rfl rfl (by decide) (by decide) dX10_copy_27 rfl rfl ac_X10_47 rfl rfl rfl ?_
  refine j_aload1 31 dX10_copy_30 rfl ?_
  refine j_getR 34 dX10_copy_31 rfl fl_X10_18 rfl rfl ?_
  refine j_iconst 35 (v := 0) dX10_copy_34 rfl rfl ?_
  refine j_aload0 36 dX10_copy_35 rfl ?_
  refine j_getR 39 dX10_copy_36 rfl fl_X10_18 rfl rfl ?_
  refine j_iconst 40 (v := 0) dX10_copy_39 rfl rfl ?_
  refine j_bipush 42 (v := 8) dX10_copy_40 rfl rfl ?_
  refine j_copy 45 0 0 8 rfl rfl rfl (by decide) (by decide) dX10_copy_42 rfl rfl ac_X10_47 rfl rfl rfl ?_
  refine j_aload1 46 dX10_copy_45 rfl ?_
  refine j_getR 49 dX10_copy_46 rfl fl_X10_21 rfl rfl ?_
  refine j_iconst 50 (v := 0) dX10_copy_49 rfl rfl ?_
  refine j_aload0 51 dX10_copy_50 rfl ?_
  refine j_getR 54 dX10_copy_51 rfl fl_X10_21 rfl rfl ?_
  refine j_iconst 55 (v := 0) dX10_copy_54 rfl rfl ?_
  refine j_bipush 57 (v := 8) dX10_copy_55 rfl rfl ?_
  refine j_copy 60 0 0 8 rfl rfl rfl (by decide) (by decide) dX10_copy_57 rfl rfl ac_X10_47 rfl rfl rfl ?_
  refine j_aload1 61 dX10_copy_60 rfl ?_
  refine j_getR 64 dX10_copy_61 rfl fl_X10_24 rfl rfl ?_
  refine j_iconst 65 (v := 0) dX10_copy_64 rfl rfl ?_
  refine j_aload0 66 dX10_copy_65 rfl ?_
  refine j_getR 69 dX10_copy_66 rfl fl_X10_24 rfl rfl ?_
  refine j_iconst 70 (v := 0) dX10_copy_69 rfl rfl ?_
  refine j_bipush 72 (v := 8) dX10_copy_70 rfl rfl ?_
  refine j_copy 75 0 0 8 rfl rfl rfl (by decide) (by decide) dX10_copy_72 rfl rfl ac_X10_47 rfl rfl rfl ?_
  refine j_aload1 76 dX10_copy_75 rfl ?_
  refine j_getR 79 dX10_copy_76 rfl fl_X10_27 rfl rfl ?_
  refine j_iconst 80 (v := 0) dX10_copy_79 rfl rfl ?_
  refine j_aload0 81 dX10_copy_80 rfl ?_
  refine j_getR 84 dX10_copy_81 rfl fl_X10_27 rfl rfl ?_
  refine j_iconst 85 (v := 0) dX10_copy_84 rfl rfl ?_
  refine j_bipush 87 (v := 8) dX10_copy_85 rfl rfl ?_
  refine j_copy 90 0 0 8 rfl rfl rfl (by decide) (by decide) dX10_copy_87 rfl rfl ac_X10_47 rfl rfl rfl ?_
  refine j_aload1 91 dX10_copy_90 rfl ?_
  refine j_getR 94 dX10_copy_91 rfl fl_X10_30 rfl rfl ?_
  refine j_iconst 95 (v := 0) dX10_copy_94 rfl rfl ?_
  refine j_aload0 96 dX10_copy_95 rfl ?_
  refine j_getR 99 dX10_copy_96 rfl fl_X10_30 rfl rfl ?_
  refine j_iconst 100 (v := 0) dX10_copy_99 rfl rfl ?_
  refine j_bipush 102 (v := 8) dX10_copy_100 rfl rfl ?_
  refine j_copy 105 0 0 8 rfl rfl rfl (by decide) (by decide) dX10_copy_102 rfl rfl ac_X10_47 rfl rfl rfl ?_
  refine j_aload1 106 dX10_copy_105 rfl ?_
  refine j_getR 109 dX10_copy_106 rfl fl_X10_33 rfl rfl ?_
  refine j_iconst 110 (v := 0) dX10_copy_109 rfl rfl ?_
  refine j_aload0 111 dX10_copy_110 rfl ?_
  refine j_getR 114 dX10_copy_111 rfl fl_X10_33 rfl rfl ?_
  refine j_iconst 115 (v := 0) dX10_copy_114 rfl rfl ?_
  refine j_bipush 117 (v := 8) dX10_copy_115 rfl rfl ?_
  refine j_copy 120 0 0 8 rfl rfl rfl (by decide) (by decide) dX10_copy_117 rfl rfl ac_X10_47 rfl rfl rfl ?_
  refine j_aload0 121 dX10_copy_120 rfl ?_
  refine j_aload1 122 dX10_copy_121 rfl ?_
  refine j_getI 125 dX10_copy_122 rfl fl_X10_53 rfl rfl ?_
  refine j_putI 128 dX10_copy_125 rfl fp_X10_53 rfl rfl ?_
  refine j_aload0 129 dX10_copy_128 rfl ?_
  refine j_aload1 130 dX10_copy_129 rfl ?_
  refine j_getI 133 dX10_copy_130 rfl fl_X10_36 rfl rfl ?_
  refine j_putI 136 dX10_copy_133 rfl fp_X10_36 rfl rfl ?_
  refine j_aload0 137 dX10_copy_136 rfl ?_
  refine j_aload1 138 dX10_copy_137 rfl ?_
  refine j_getI 141 dX10_copy_138 rfl fl_X10_40 rfl rfl ?_
  refine j_putI 144 dX10_copy_141 rfl fp_X10_40 rfl rfl ?_
  refine j_aload0 145 dX10_copy_144 rfl ?_
  refine j_aload1 146 dX10_copy_145 rfl ?_
  refine j_getI 149 dX10_copy_146 rfl fl_X10_56 rfl rfl ?_
  refine j_putI 152 dX10_copy_149 rfl fp_X10_56 rfl rfl ?_
  refine j_aload0 153 dX10_copy_152 rfl ?_
  refine j_aload1 154 dX10_copy_153 rfl ?_
  refine j_getI 157 dX10_copy_154 rfl fl_X10_59 rfl rfl ?_
  refine j_putI 160 dX10_copy_157 rfl fp_X10_59 rfl rfl ?_
  refine j_vret dX10_copy_160 rfl ?_
  refine ⟨rfl, fun d h => ?_, (((((((((((((Sm.rf.cpy (by decide)).cpy (by decide)).cpy (by decide)).cpy (by decide)).cpy (by decide)).cpy (by decide)).cpy (by decide)).cpy (by decide)).up (by decide)).up (by decide)).up (by decide)).up (by decide)).up (by decide))⟩
  obtain ⟨t9, t10, t11, t12, t13, ts, tt, th⟩ := h
  refine ⟨?_, ?_, ?_, ?_, ?_, fun i hi => ?_, fun i hi => ?_, fun i hi r hr => ?_⟩
  · rw [up2_k (by decide), up2_k (by decide), up2_k (by decide), up2_k (by decide), up2_s, cpy_n (by decide), cpy_n (by decide), cpy_n (by decide), cpy_n (by decide), cpy_n (by decide), cpy_n (by decide), cpy_n (by decide), cpy_n (by decide)]; exact t9
  · rw [up2_k (by decide), up2_k (by decide), up2_k (by decide), up2_s, up2_a (by decide), cpy_n (by decide), cpy_n (by decide), cpy_n (by decide), cpy_n (by decide), cpy_n (by decide), cpy_n (by decide), cpy_n (by decide), cpy_n (by decide)]; exact t10
  · rw [up2_k (by decide), up2_k (by decide), up2_s, up2_a (by decide), up2_a (by decide), cpy_n (by decide), cpy_n (by decide), cpy_n (by decide), cpy_n (by decide), cpy_n (by decide), cpy_n (by decide), cpy_n (by decide), cpy_n (by decide)]; exact t11
  · rw [up2_k (by decide), up2_s, up2_a (by decide), up2_a (by decide), up2_a (by decide), cpy_n (by decide), cpy_n (by decide), cpy_n (by decide), cpy_n (by decide), cpy_n (by decide), cpy_n (by decide), cpy_n (by decide), cpy_n (by decide)]; exact t12
  · rw [up2_s, up2_a (by decide), up2_a (by decide), up2_a (by decide), up2_a (by decide), cpy_n (by decide), cpy_n (by decide), cpy_n (by decide), cpy_n (by decide), cpy_n (by decide), cpy_n (by decide), cpy_n (by decide), cpy_n (by decide)]; exact t13
  · rw [up2_a (by decide), up2_a (by decide), up2_a (by decide), up2_a (by decide), up2_a (by decide), cpy_n (by decide), cpy_n (by decide), cpy_n (by decide), cpy_n (by decide), cpy_n (by decide), cpy_n (by decide), cpy_n (by decide), cpy_s hi]; exact ts i hi
  · rw [up2_a (by decide), up2_a (by decide), up2_a (by decide), up2_a (by decide), up2_a (by decide), cpy_n (by decide), cpy_n (by decide), cpy_n (by decide), cpy_n (by decide), cpy_n (by decide), cpy_n (by decide), cpy_s hi, cpy_n (by decide)]; exact tt i hi
  · have h6 := th i hi r hr
    rcases (show r = 0 ∨ r = 1 ∨ r = 2 ∨ r = 3 ∨ r = 4 ∨ r = 5 by omega) with rfl | rfl | rfl | rfl | rfl | rfl
    · rw [up2_a (by decide), up2_a (by decide), up2_a (by decide), up2_a (by decide), up2_a (by decide), cpy_n (by decide), cpy_n (by decide), cpy_n (by decide), cpy_n (by decide), cpy_n (by decide), cpy_s hi, cpy_n (by decide), cpy_n (by decide)]; exact h6
    · rw [up2_a (by decide), up2_a (by decide), up2_a (by decide), up2_a (by decide), up2_a (by decide), cpy_n (by decide), cpy_n (by decide), cpy_n (by decide), cpy_n (by decide), cpy_s hi, cpy_n (by decide), cpy_n (by decide), cpy_n (by decide)]; exact h6
    · rw [up2_a (by decide), up2_a (by decide), up2_a (by decide), up2_a (by decide), up2_a (by decide), cpy_n (by decide), cpy_n (by decide), cpy_n (by decide), cpy_s hi, cpy_n (by decide), cpy_n (by decide), cpy_n (by decide), cpy_n (by decide)]; exact h6
    · rw [up2_a (by decide), up2_a (by decide), up2_a (by decide), up2_a (by decide), up2_a (by decide), cpy_n (by decide), cpy_n (by decide), cpy_s hi, cpy_n (by decide), cpy_n (by decide), cpy_n (by decide), cpy_n (by decide), cpy_n (by decide)]; exact h6
    · rw [up2_a (by decide), up2_a (by decide), up2_a (by decide), up2_a (by decide), up2_a (by decide), cpy_n (by decide), cpy_s hi, cpy_n (by decide), cpy_n (by decide), cpy_n (by decide), cpy_n (by decide), cpy_n (by decide), cpy_n (by decide)]; exact h6
    · rw [up2_a (by decide), up2_a (by decide), up2_a (by decide), up2_a (by decide), up2_a (by decide), cpy_s hi, cpy_n (by decide), cpy_n (by decide), cpy_n (by decide), cpy_n (by decide), cpy_n (by decide), cpy_n (by decide), cpy_n (by decide)]; exact h6
set_option maxRecDepth 100000 in
theorem c_think (m : Mem) : JM l g 2 mX11_think [rf g 0] m (RS none (fun m' => (∀ d, TR 9 m d → TR 18 m' d) ∧ Sm [18, 19, 20, 21, 22, 23, 24, 25, 26] m m')) := by
  refine JM_of (ls := [some (rf g 0)]) pn_X11 rfl rfl ?_
  refine j_aload0 1 dX11_think_0 rfl ?_
  refine j_getR 4 dX11_think_1 rfl fl_X11_39 rfl rfl ?_
  refine j_aload0 5 dX11_think_4 rfl ?_
  refine j_getR 8 dX11_think_5 rfl fl_X11_35 rfl rfl ?_
  refine j_vi1w 11 dX11_think_8 rfl rfl cl_X11_302 rfl rfl (c_copy_18_9 m) (fun m8 q8 => ?_)
  refine j_vret dX11_think_11 rfl ?_
  exact ⟨rfl, q8⟩
set_option maxRecDepth 100000 in
theorem c_ltake_39_42 (m : Mem) (n : Nat) (hn : n ≤ 50) : JM l g 1 mX6_take [rf g 39, rf g 42, .int (nI n)] m (RS none (fun m' => m' 39 3 = nI n ∧ (∀ k, k ≠ 3 → m' 39 k = m 39 k) ∧ (∀ j, j < n → m' 40 j = m 42 j) ∧ Sm [39, 40] m m')) := by
  refine JM_of (ls := [some (rf g 39), some (rf g 42), some (.int (nI n))]) pn_X6 rfl rfl ?_
  have e1 : imax 0 (imin (nI n) 50) = nI n := by
    unfold imin
    by_cases q : (50 : Int32) < nI n
    · exact absurd q (nI_nlt (a := 50) (b := n) hn (by decide))
    · rw [if_neg q]
      unfold imax
      by_cases z : 0 < nI n
      · rw [if_pos z]
      · rw [if_neg z]
        exact Int32.le_antisymm (nI_le (a := 0) (b := n) (by omega) (by omega)) (Int32.not_lt.mp z)
  refine j_aload0 1 dX6_take_0 rfl ?_
  refine j_iconst 2 (v := 0) dX6_take_1 rfl rfl ?_
  refine j_iload2 3 dX6_take_2 rfl ?_
  refine j_bipush 5 (v := 50) dX6_take_3 rfl rfl ?_
  refine j_mmin 8 dX6_take_5 rfl rfl cl_X6_36 rfl ?_
  refine j_mmax 11 dX6_take_8 rfl rfl cl_X6_42 rfl ?_
  refine j_top e1 ?_
  refine j_putI 14 dX6_take_11 rfl fp_X6_29 rfl rfl ?_
  refine j_aload1 15 dX6_take_14 rfl ?_
  refine j_iconst 16 (v := 0) dX6_take_15 rfl rfl ?_
  refine j_aload0 17 dX6_take_16 rfl ?_
  refine j_getR 20 dX6_take_17 rfl fl_X6_9 rfl rfl ?_
  refine j_iconst 21 (v := 0) dX6_take_20 rfl rfl ?_
  refine j_aload0 22 dX6_take_21 rfl ?_
  refine j_getI 25 dX6_take_22 rfl fl_X6_29 rfl rfl ?_
  refine j_top up2_s ?_
  refine j_copy 28 0 0 n rfl rfl rfl (by show 0 + n ≤ 50; omega) (by show 0 + n ≤ 50; omega) dX6_take_25 rfl rfl ac_X6_45 rfl rfl rfl ?_
  refine j_vret dX6_take_28 rfl ?_
  exact ⟨rfl, by rw [cpy_n (by decide), up2_s], fun k hk => by rw [cpy_n (by decide), up2_k hk], fun j hj => by rw [cpy_s hj, up2_a (by decide)], (Sm.rf.up (by decide)).cpy (by decide)⟩
set_option maxRecDepth 100000 in
theorem c_ltake_43_46 (m : Mem) (n : Nat) (hn : n ≤ 50) : JM l g 1 mX6_take [rf g 43, rf g 46, .int (nI n)] m (RS none (fun m' => m' 43 3 = nI n ∧ (∀ k, k ≠ 3 → m' 43 k = m 43 k) ∧ (∀ j, j < n → m' 44 j = m 46 j) ∧ Sm [43, 44] m m')) := by
  refine JM_of (ls := [some (rf g 43), some (rf g 46), some (.int (nI n))]) pn_X6 rfl rfl ?_
  have e1 : imax 0 (imin (nI n) 50) = nI n := by
    unfold imin
    by_cases q : (50 : Int32) < nI n
    · exact absurd q (nI_nlt (a := 50) (b := n) hn (by decide))
    · rw [if_neg q]
      unfold imax
      by_cases z : 0 < nI n
      · rw [if_pos z]
      · rw [if_neg z]
        exact Int32.le_antisymm (nI_le (a := 0) (b := n) (by omega) (by omega)) (Int32.not_lt.mp z)
  refine j_aload0 1 dX6_take_0 rfl ?_
  refine j_iconst 2 (v := 0) dX6_take_1 rfl rfl ?_
  refine j_iload2 3 dX6_take_2 rfl ?_
  refine j_bipush 5 (v := 50) dX6_take_3 rfl rfl ?_
  refine j_mmin 8 dX6_take_5 rfl rfl cl_X6_36 rfl ?_
  refine j_mmax 11 dX6_take_8 rfl rfl cl_X6_42 rfl ?_
  refine j_top e1 ?_
  refine j_putI 14 dX6_take_11 rfl fp_X6_29 rfl rfl ?_
  refine j_aload1 15 dX6_take_14 rfl ?_
  refine j_iconst 16 (v := 0) dX6_take_15 rfl rfl ?_
  refine j_aload0 17 dX6_take_16 rfl ?_
  refine j_getR 20 dX6_take_17 rfl fl_X6_9 rfl rfl ?_
  refine j_iconst 21 (v := 0) dX6_take_20 rfl rfl ?_
  refine j_aload0 22 dX6_take_21 rfl ?_
  refine j_getI 25 dX6_take_22 rfl fl_X6_29 rfl rfl ?_
  refine j_top up2_s ?_
  refine j_copy 28 0 0 n rfl rfl rfl (by show 0 + n ≤ 50; omega) (by show 0 + n ≤ 50; omega) dX6_take_25 rfl rfl ac_X6_45 rfl rfl rfl ?_
  refine j_vret dX6_take_28 rfl ?_
  exact ⟨rfl, by rw [cpy_n (by decide), up2_s], fun k hk => by rw [cpy_n (by decide), up2_k hk], fun j hj => by rw [cpy_s hj, up2_a (by decide)], (Sm.rf.up (by decide)).cpy (by decide)⟩
set_option maxRecDepth 100000 in
theorem c_ltake_50_40 (m : Mem) (n : Nat) (hn : n ≤ 50) : JM l g 1 mX6_take [rf g 50, rf g 40, .int (nI n)] m (RS none (fun m' => m' 50 3 = nI n ∧ (∀ k, k ≠ 3 → m' 50 k = m 50 k) ∧ (∀ j, j < n → m' 51 j = m 40 j) ∧ Sm [50, 51] m m')) := by
  refine JM_of (ls := [some (rf g 50), some (rf g 40), some (.int (nI n))]) pn_X6 rfl rfl ?_
  have e1 : imax 0 (imin (nI n) 50) = nI n := by
    unfold imin
    by_cases q : (50 : Int32) < nI n
    · exact absurd q (nI_nlt (a := 50) (b := n) hn (by decide))
    · rw [if_neg q]
      unfold imax
      by_cases z : 0 < nI n
      · rw [if_pos z]
      · rw [if_neg z]
        exact Int32.le_antisymm (nI_le (a := 0) (b := n) (by omega) (by omega)) (Int32.not_lt.mp z)
  refine j_aload0 1 dX6_take_0 rfl ?_
  refine j_iconst 2 (v := 0) dX6_take_1 rfl rfl ?_
  refine j_iload2 3 dX6_take_2 rfl ?_
  refine j_bipush 5 (v := 50) dX6_take_3 rfl rfl ?_
  refine j_mmin 8 dX6_take_5 rfl rfl cl_X6_36 rfl ?_
  refine j_mmax 11 dX6_take_8 rfl rfl cl_X6_42 rfl ?_
  refine j_top e1 ?_
  refine j_putI 14 dX6_take_11 rfl fp_X6_29 rfl rfl ?_
  refine j_aload1 15 dX6_take_14 rfl ?_
  refine j_iconst 16 (v := 0) dX6_take_15 rfl rfl ?_
  refine j_aload0 17 dX6_take_16 rfl ?_
  refine j_getR 20 dX6_take_17 rfl fl_X6_9 rfl rfl ?_
  refine j_iconst 21 (v := 0) dX6_take_20 rfl rfl ?_
  refine j_aload0 22 dX6_take_21 rfl ?_
  refine j_getI 25 dX6_take_22 rfl fl_X6_29 rfl rfl ?_
  refine j_top up2_s ?_
  refine j_copy 28 0 0 n rfl rfl rfl (by show 0 + n ≤ 50; omega) (by show 0 + n ≤ 50; omega) dX6_take_25 rfl rfl ac_X6_45 rfl rfl rfl ?_
  refine j_vret dX6_take_28 rfl ?_
  exact ⟨rfl, by rw [cpy_n (by decide), up2_s], fun k hk => by rw [cpy_n (by decide), up2_k hk], fun j hj => by rw [cpy_s hj, up2_a (by decide)], (Sm.rf.up (by decide)).cpy (by decide)⟩
set_option maxRecDepth 100000 in
theorem c_ltake_54_44 (m : Mem) (n : Nat) (hn : n ≤ 50) : JM l g 1 mX6_take [rf g 54, rf g 44, .int (nI n)] m (RS none (fun m' => m' 54 3 = nI n ∧ (∀ k, k ≠ 3 → m' 54 k = m 54 k) ∧ (∀ j, j < n → m' 55 j = m 44 j) ∧ Sm [54, 55] m m')) := by
  refine JM_of (ls := [some (rf g 54), some (rf g 44), some (.int (nI n))]) pn_X6 rfl rfl ?_
  have e1 : imax 0 (imin (nI n) 50) = nI n := by
    unfold imin
    by_cases q : (50 : Int32) < nI n
    · exact absurd q (nI_nlt (a := 50) (b := n) hn (by decide))
    · rw [if_neg q]
      unfold imax
      by_cases z : 0 < nI n
      · rw [if_pos z]
      · rw [if_neg z]
        exact Int32.le_antisymm (nI_le (a := 0) (b := n) (by omega) (by omega)) (Int32.not_lt.mp z)
  refine j_aload0 1 dX6_take_0 rfl ?_
  refine j_iconst 2 (v := 0) dX6_take_1 rfl rfl ?_
  refine j_iload2 3 dX6_take_2 rfl ?_
  refine j_bipush 5 (v := 50) dX6_take_3 rfl rfl ?_
  refine j_mmin 8 dX6_take_5 rfl rfl cl_X6_36 rfl ?_
  refine j_mmax 11 dX6_take_8 rfl rfl cl_X6_42 rfl ?_
  refine j_top e1 ?_
  refine j_putI 14 dX6_take_11 rfl fp_X6_29 rfl rfl ?_
  refine j_aload1 15 dX6_take_14 rfl ?_
  refine j_iconst 16 (v := 0) dX6_take_15 rfl rfl ?_
  refine j_aload0 17 dX6_take_16 rfl ?_
  refine j_getR 20 dX6_take_17 rfl fl_X6_9 rfl rfl ?_
  refine j_iconst 21 (v := 0) dX6_take_20 rfl rfl ?_
  refine j_aload0 22 dX6_take_21 rfl ?_
  refine j_getI 25 dX6_take_22 rfl fl_X6_29 rfl rfl ?_
  refine j_top up2_s ?_
  refine j_copy 28 0 0 n rfl rfl rfl (by show 0 + n ≤ 50; omega) (by show 0 + n ≤ 50; omega) dX6_take_25 rfl rfl ac_X6_45 rfl rfl rfl ?_
  refine j_vret dX6_take_28 rfl ?_
  exact ⟨rfl, by rw [cpy_n (by decide), up2_s], fun k hk => by rw [cpy_n (by decide), up2_k hk], fun j hj => by rw [cpy_s hj, up2_a (by decide)], (Sm.rf.up (by decide)).cpy (by decide)⟩
set_option maxRecDepth 100000 in
theorem c_ltake_39_51 (m : Mem) (n : Nat) (hn : n ≤ 50) : JM l g 1 mX6_take [rf g 39, rf g 51, .int (nI n)] m (RS none (fun m' => m' 39 3 = nI n ∧ (∀ k, k ≠ 3 → m' 39 k = m 39 k) ∧ (∀ j, j < n → m' 40 j = m 51 j) ∧ Sm [39, 40] m m')) := by
  refine JM_of (ls := [some (rf g 39), some (rf g 51), some (.int (nI n))]) pn_X6 rfl rfl ?_
  have e1 : imax 0 (imin (nI n) 50) = nI n := by
    unfold imin
    by_cases q : (50 : Int32) < nI n
    · exact absurd q (nI_nlt (a := 50) (b := n) hn (by decide))
    · rw [if_neg q]
      unfold imax
      by_cases z : 0 < nI n
      · rw [if_pos z]
      · rw [if_neg z]
        exact Int32.le_antisymm (nI_le (a := 0) (b := n) (by omega) (by omega)) (Int32.not_lt.mp z)
  refine j_aload0 1 dX6_take_0 rfl ?_
  refine j_iconst 2 (v := 0) dX6_take_1 rfl rfl ?_
  refine j_iload2 3 dX6_take_2 rfl ?_
  refine j_bipush 5 (v := 50) dX6_take_3 rfl rfl ?_
  refine j_mmin 8 dX6_take_5 rfl rfl cl_X6_36 rfl ?_
  refine j_mmax 11 dX6_take_8 rfl rfl cl_X6_42 rfl ?_
  refine j_top e1 ?_
  refine j_putI 14 dX6_take_11 rfl fp_X6_29 rfl rfl ?_
  refine j_aload1 15 dX6_take_14 rfl ?_
  refine j_iconst 16 (v := 0) dX6_take_15 rfl rfl ?_
  refine j_aload0 17 dX6_take_16 rfl ?_
  refine j_getR 20 dX6_take_17 rfl fl_X6_9 rfl rfl ?_
  refine j_iconst 21 (v := 0) dX6_take_20 rfl rfl ?_
  refine j_aload0 22 dX6_take_21 rfl ?_
  refine j_getI 25 dX6_take_22 rfl fl_X6_29 rfl rfl ?_
  refine j_top up2_s ?_
  refine j_copy 28 0 0 n rfl rfl rfl (by show 0 + n ≤ 50; omega) (by show 0 + n ≤ 50; omega) dX6_take_25 rfl rfl ac_X6_45 rfl rfl rfl ?_
  refine j_vret dX6_take_28 rfl ?_
  exact ⟨rfl, by rw [cpy_n (by decide), up2_s], fun k hk => by rw [cpy_n (by decide), up2_k hk], fun j hj => by rw [cpy_s hj, up2_a (by decide)], (Sm.rf.up (by decide)).cpy (by decide)⟩
set_option maxRecDepth 100000 in
theorem c_ltake_43_55 (m : Mem) (n : Nat) (hn : n ≤ 50) : JM l g 1 mX6_take [rf g 43, rf g 55, .int (nI n)] m (RS none (fun m' => m' 43 3 = nI n ∧ (∀ k, k ≠ 3 → m' 43 k = m 43 k) ∧ (∀ j, j < n → m' 44 j = m 55 j) ∧ Sm [43, 44] m m')) := by
  refine JM_of (ls := [some (rf g 43), some (rf g 55), some (.int (nI n))]) pn_X6 rfl rfl ?_
  have e1 : imax 0 (imin (nI n) 50) = nI n := by
    unfold imin
    by_cases q : (50 : Int32) < nI n
    · exact absurd q (nI_nlt (a := 50) (b := n) hn (by decide))
    · rw [if_neg q]
      unfold imax
      by_cases z : 0 < nI n
      · rw [if_pos z]
      · rw [if_neg z]
        exact Int32.le_antisymm (nI_le (a := 0) (b := n) (by omega) (by omega)) (Int32.not_lt.mp z)
  refine j_aload0 1 dX6_take_0 rfl ?_
  refine j_iconst 2 (v := 0) dX6_take_1 rfl rfl ?_
  refine j_iload2 3 dX6_take_2 rfl ?_
  refine j_bipush 5 (v := 50) dX6_take_3 rfl rfl ?_
  refine j_mmin 8 dX6_take_5 rfl rfl cl_X6_36 rfl ?_
  refine j_mmax 11 dX6_take_8 rfl rfl cl_X6_42 rfl ?_
  refine j_top e1 ?_
  refine j_putI 14 dX6_take_11 rfl fp_X6_29 rfl rfl ?_
  refine j_aload1 15 dX6_take_14 rfl ?_
  refine j_iconst 16 (v := 0) dX6_take_15 rfl rfl ?_
  refine j_aload0 17 dX6_take_16 rfl ?_
  refine j_getR 20 dX6_take_17 rfl fl_X6_9 rfl rfl ?_
  refine j_iconst 21 (v := 0) dX6_take_20 rfl rfl ?_
  refine j_aload0 22 dX6_take_21 rfl ?_
  refine j_getI 25 dX6_take_22 rfl fl_X6_29 rfl rfl ?_
  refine j_top up2_s ?_
  refine j_copy 28 0 0 n rfl rfl rfl (by show 0 + n ≤ 50; omega) (by show 0 + n ≤ 50; omega) dX6_take_25 rfl rfl ac_X6_45 rfl rfl rfl ?_
  refine j_vret dX6_take_28 rfl ?_
  exact ⟨rfl, by rw [cpy_n (by decide), up2_s], fun k hk => by rw [cpy_n (by decide), up2_k hk], fun j hj => by rw [cpy_s hj, up2_a (by decide)], (Sm.rf.up (by decide)).cpy (by decide)⟩
set_option maxRecDepth 100000 in
theorem c_lcopy_50_39 (m : Mem) (n : Nat) (hn : n ≤ 50) (hs : m 39 3 = nI n) : JM l g 2 mX6_copy [rf g 50, rf g 39] m (RS none (fun m' => m' 50 3 = nI n ∧ (∀ k, k ≠ 3 → m' 50 k = m 50 k) ∧ (∀ j, j < n → m' 51 j = m 40 j) ∧ Sm [50, 51] m m')) := by
  refine JM_of (ls := [some (rf g 50), some (rf g 39)]) pn_X6 rfl rfl ?_
  refine j_aload0 1 dX6_copy_0 rfl ?_
  refine j_aload1 2 dX6_copy_1 rfl ?_
  refine j_getR 5 dX6_copy_2 rfl fl_X6_9 rfl rfl ?_
  refine j_aload1 6 dX6_copy_5 rfl ?_
  refine j_getI 9 dX6_copy_6 rfl fl_X6_29 rfl rfl ?_
  refine j_top hs ?_
  refine j_vi2w 12 dX6_copy_9 rfl rfl cl_X6_32 rfl rfl (c_ltake_50_40 m n hn) (fun m9 q9 => ?_)
  refine j_vret dX6_copy_12 rfl ?_
  exact ⟨rfl, q9⟩
set_option maxRecDepth 100000 in
theorem c_lcopy_54_43 (m : Mem) (n : Nat) (hn : n ≤ 50) (hs : m 43 3 = nI n) : JM l g 2 mX6_copy [rf g 54, rf g 43] m (RS none (fun m' => m' 54 3 = nI n ∧ (∀ k, k ≠ 3 → m' 54 k = m 54 k) ∧ (∀ j, j < n → m' 55 j = m 44 j) ∧ Sm [54, 55] m m')) := by
  refine JM_of (ls := [some (rf g 54), some (rf g 43)]) pn_X6 rfl rfl ?_
  refine j_aload0 1 dX6_copy_0 rfl ?_
  refine j_aload1 2 dX6_copy_1 rfl ?_
  refine j_getR 5 dX6_copy_2 rfl fl_X6_9 rfl rfl ?_
  refine j_aload1 6 dX6_copy_5 rfl ?_
  refine j_getI 9 dX6_copy_6 rfl fl_X6_29 rfl rfl ?_
  refine j_top hs ?_
  refine j_vi2w 12 dX6_copy_9 rfl rfl cl_X6_32 rfl rfl (c_ltake_54_44 m n hn) (fun m9 q9 => ?_)
  refine j_vret dX6_copy_12 rfl ?_
  exact ⟨rfl, q9⟩
set_option maxRecDepth 100000 in
theorem c_lcopy_39_50 (m : Mem) (n : Nat) (hn : n ≤ 50) (hs : m 50 3 = nI n) : JM l g 2 mX6_copy [rf g 39, rf g 50] m (RS none (fun m' => m' 39 3 = nI n ∧ (∀ k, k ≠ 3 → m' 39 k = m 39 k) ∧ (∀ j, j < n → m' 40 j = m 51 j) ∧ Sm [39, 40] m m')) := by
  refine JM_of (ls := [some (rf g 39), some (rf g 50)]) pn_X6 rfl rfl ?_
  refine j_aload0 1 dX6_copy_0 rfl ?_
  refine j_aload1 2 dX6_copy_1 rfl ?_
  refine j_getR 5 dX6_copy_2 rfl fl_X6_9 rfl rfl ?_
  refine j_aload1 6 dX6_copy_5 rfl ?_
  refine j_getI 9 dX6_copy_6 rfl fl_X6_29 rfl rfl ?_
  refine j_top hs ?_
  refine j_vi2w 12 dX6_copy_9 rfl rfl cl_X6_32 rfl rfl (c_ltake_39_51 m n hn) (fun m9 q9 => ?_)
  refine j_vret dX6_copy_12 rfl ?_
  exact ⟨rfl, q9⟩
set_option maxRecDepth 100000 in
theorem c_lcopy_43_54 (m : Mem) (n : Nat) (hn : n ≤ 50) (hs : m 54 3 = nI n) : JM l g 2 mX6_copy [rf g 43, rf g 54] m (RS none (fun m' => m' 43 3 = nI n ∧ (∀ k, k ≠ 3 → m' 43 k = m 43 k) ∧ (∀ j, j < n → m' 44 j = m 55 j) ∧ Sm [43, 44] m m')) := by
  refine JM_of (ls := [some (rf g 43), some (rf g 54)]) pn_X6 rfl rfl ?_
  refine j_aload0 1 dX6_copy_0 rfl ?_
  refine j_aload1 2 dX6_copy_1 rfl ?_
  refine j_getR 5 dX6_copy_2 rfl fl_X6_9 rfl rfl ?_
  refine j_aload1 6 dX6_copy_5 rfl ?_
  refine j_getI 9 dX6_copy_6 rfl fl_X6_29 rfl rfl ?_
  refine j_top hs ?_
  refine j_vi2w 12 dX6_copy_9 rfl rfl cl_X6_32 rfl rfl (c_ltake_43_55 m n hn) (fun m9 q9 => ?_)
  refine j_vret dX6_copy_12 rfl ?_
  exact ⟨rfl, q9⟩
set_option maxRecDepth 100000 in
theorem c_pcopy_47_36 (m : Mem) (d : Nat → Int32) (t0 : TXok d 0) (t1 : TXok d 1) (hP : PR 36 m d) (hm0 : m 50 1 = 9) (hm1 : m 54 1 = 99) : JM l g 3 mX8_copy [rf g 47, rf g 36] m (RS none (fun m' => PR 47 m' d ∧ (∀ k, k ≠ 3 → m' 50 k = m 50 k) ∧ (∀ k, k ≠ 3 → m' 54 k = m 54 k) ∧ Sm [47, 48, 49, 50, 51, 54, 55] m m')) := by
  refine JM_of (ls := [some (rf g 47), some (rf g 36)]) pn_X8 rfl rfl ?_
  obtain ⟨p4, p5, p6, pt, pw, pl0, pl1⟩ := hP
  obtain ⟨n0, hn0, en0, -⟩ := t0
  obtain ⟨n1, hn1, en1, -⟩ := t1
  obtain ⟨a0, b0, c0⟩ := pl0
  obtain ⟨a1, b1, c1⟩ := pl1
  rw [en0, nI_clamp (by omega)] at c0
  rw [en1, nI_clamp (by omega)] at c1
  refine j_aload1 1 dX8_copy_0 rfl ?_
  refine j_getR 4 dX8_copy_1 rfl fl_X8_9 rfl rfl ?_
  refine j_iconst 5 (v := 0) dX8_copy_4 rfl rfl ?_
  refine j_aload0 6 dX8_copy_5 rfl ?_
  refine j_getR 9 dX8_copy_6 rfl fl_X8_9 rfl rfl ?_
  refine j_iconst 10 (v := 0) dX8_copy_9 rfl rfl ?_
  refine j_bipush 12 (v := 50) dX8_copy_10 rfl rfl ?_
  refine j_copy 15 0 0 50 rfl rfl rfl (by decide) (by decide) dX8_copy_12 rfl rfl ac_X8_38 rfl rfl rfl ?_
  refine j_aload1 16 dX8_copy_15 rfl ?_
  refine j_getR 19 dX8_copy_16 rfl fl_X8_15 rfl rfl ?_
  refine j_iconst 20 (v := 0) dX8_copy_19 rfl rfl ?_
  refine j_aload0 21 dX8_copy_20 rfl ?_
  refine j_getR 24 dX8_copy_21 rfl fl_X8_15 rfl rfl ?_
  refine j_iconst 25 (v := 0) dX8_copy_24 rfl rfl ?_
  refine j_bipush 27 (v := 20) dX8_copy_25 rfl rfl ?_
  refine j_copy 30 0 0 20 rfl rfl rfl (by decide) (by decide) dX8_copy_27 rfl rfl ac_X8_38 rfl rfl rfl ?_
  refine j_aload0 31 dX8_copy_30 rfl ?_
  refine j_getR 34 dX8_copy_31 rfl fl_X8_25 rfl rfl ?_
  refine j_aload1 35 dX8_copy_34 rfl ?_
  refine j_getR 38 dX8_copy_35 rfl fl_X8_25 rfl rfl ?_
  refine j_vi1w 41 dX8_copy_38 rfl rfl cl_X8_44 rfl rfl (c_lcopy_50_39 _ n0 hn0 (by rw [cpy_n (by decide), cpy_n (by decide)]; exact a0.trans en0)) (fun m38 q38 => ?_)
  refine j_aload0 42 dX8_copy_41 rfl ?_
  refine j_getR 45 dX8_copy_42 rfl fl_X8_31 rfl rfl ?_
  refine j_aload1 46 dX8_copy_45 rfl ?_
  refine j_getR 49 dX8_copy_46 rfl fl_X8_31 rfl rfl ?_
  refine j_vi1w 52 dX8_copy_49 rfl rfl cl_X8_44 rfl rfl (c_lcopy_54_43 _ n1 hn1 (by rw [q38.2.2.2 43 (by decide), cpy_n (by decide), cpy_n (by decide)]; exact a1.trans en1)) (fun m49 q49 => ?_)
  refine j_aload0 53 dX8_copy_52 rfl ?_
  refine j_aload1 54 dX8_copy_53 rfl ?_
  refine j_getI 57 dX8_copy_54 rfl fl_X8_48 rfl rfl ?_
  refine j_putI 60 dX8_copy_57 rfl fp_X8_48 rfl rfl ?_
  refine j_aload0 61 dX8_copy_60 rfl ?_
  refine j_aload1 62 dX8_copy_61 rfl ?_
  refine j_getI 65 dX8_copy_62 rfl fl_X8_51 rfl rfl ?_
  refine j_putI 68 dX8_copy_65 rfl fp_X8_51 rfl rfl ?_
  refine j_aload0 69 dX8_copy_68 rfl ?_
  refine j_aload1 70 dX8_copy_69 rfl ?_
  refine j_getI 73 dX8_copy_70 rfl fl_X8_34 rfl rfl ?_
  refine j_putI 76 dX8_copy_73 rfl fp_X8_34 rfl rfl ?_
  refine j_vret dX8_copy_76 rfl ?_
  refine ⟨rfl, ⟨?_, ?_, ?_, fun i hi => ?_, fun i hi => ?_, ⟨?_, ?_, fun j hj => ?_⟩, ⟨?_, ?_, fun j hj => ?_⟩⟩, fun k hk => ?_, fun k hk => ?_, ?_⟩
  · rw [up2_k (by decide), up2_k (by decide), up2_s, q49.2.2.2 36 (by decide), q38.2.2.2 36 (by decide), cpy_n (by decide), cpy_n (by decide)]; exact p4
  · rw [up2_k (by decide), up2_s, up2_a (by decide), q49.2.2.2 36 (by decide), q38.2.2.2 36 (by decide), cpy_n (by decide), cpy_n (by decide)]; exact p5
  · rw [up2_s, up2_a (by decide), up2_a (by decide), q49.2.2.2 36 (by decide), q38.2.2.2 36 (by decide), cpy_n (by decide), cpy_n (by decide)]; exact p6
  · rw [up2_a (by decide), up2_a (by decide), up2_a (by decide), q49.2.2.2 48 (by decide), q38.2.2.2 48 (by decide), cpy_n (by decide), cpy_s hi]; exact pt i hi
  · rw [up2_a (by decide), up2_a (by decide), up2_a (by decide), q49.2.2.2 49 (by decide), q38.2.2.2 49 (by decide), cpy_s hi, cpy_n (by decide)]; exact pw i hi
  · rw [up2_a (by decide), up2_a (by decide), up2_a (by decide), q49.2.2.2 50 (by decide), q38.1]; exact en0.symm
  · rw [up2_a (by decide), up2_a (by decide), up2_a (by decide), q49.2.2.2 50 (by decide), q38.2.1 1 (by decide), cpy_n (by decide), cpy_n (by decide)]; exact hm0
  · rw [en0, nI_clamp (by omega)] at hj
    rw [up2_a (by decide), up2_a (by decide), up2_a (by decide), q49.2.2.2 51 (by decide), q38.2.2.1 j hj, cpy_n (by decide), cpy_n (by decide)]; exact c0 j hj
  · rw [up2_a (by decide), up2_a (by decide), up2_a (by decide), q49.1]; exact en1.symm
  · rw [up2_a (by decide), up2_a (by decide), up2_a (by decide), q49.2.1 1 (by decide), q38.2.2.2 54 (by decide), cpy_n (by decide), cpy_n (by decide)]; exact hm1
  · rw [en1, nI_clamp (by omega)] at hj
    rw [up2_a (by decide), up2_a (by decide), up2_a (by decide), q49.2.2.1 j hj, q38.2.2.2 44 (by decide), cpy_n (by decide), cpy_n (by decide)]; exact c1 j hj
  · rw [up2_a (by decide), up2_a (by decide), up2_a (by decide), q49.2.2.2 50 (by decide), q38.2.1 k hk, cpy_n (by decide), cpy_n (by decide)]
  · rw [up2_a (by decide), up2_a (by decide), up2_a (by decide), q49.2.1 k hk, q38.2.2.2 54 (by decide), cpy_n (by decide), cpy_n (by decide)]
  · exact (((((((Sm.rf.cpy (by decide)).cpy (by decide)).trans (q38.2.2.2.mono (by decide))).trans (q49.2.2.2.mono (by decide))).up (by decide)).up (by decide)).up (by decide))
set_option maxRecDepth 100000 in
theorem c_pcopy_36_47 (m : Mem) (d : Nat → Int32) (t0 : TXok d 0) (t1 : TXok d 1) (hP : PR 47 m d) (hm0 : m 39 1 = 9) (hm1 : m 43 1 = 99) : JM l g 3 mX8_copy [rf g 36, rf g 47] m (RS none (fun m' => PR 36 m' d ∧ (∀ k, k ≠ 3 → m' 39 k = m 39 k) ∧ (∀ k, k ≠ 3 → m' 43 k = m 43 k) ∧ Sm [36, 37, 38, 39, 40, 43, 44] m m')) := by
  refine JM_of (ls := [some (rf g 36), some (rf g 47)]) pn_X8 rfl rfl ?_
  obtain ⟨p4, p5, p6, pt, pw, pl0, pl1⟩ := hP
  obtain ⟨n0, hn0, en0, -⟩ := t0
  obtain ⟨n1, hn1, en1, -⟩ := t1
  obtain ⟨a0, b0, c0⟩ := pl0
  obtain ⟨a1, b1, c1⟩ := pl1
  rw [en0, nI_clamp (by omega)] at c0
  rw [en1, nI_clamp (by omega)] at c1
  refine j_aload1 1 dX8_copy_0 rfl ?_
  refine j_getR 4 dX8_copy_1 rfl fl_X8_9 rfl rfl ?_
  refine j_iconst 5 (v := 0) dX8_copy_4 rfl rfl ?_
  refine j_aload0 6 dX8_copy_5 rfl ?_
  refine j_getR 9 dX8_copy_6 rfl fl_X8_9 rfl rfl ?_
  refine j_iconst 10 (v := 0) dX8_copy_9 rfl rfl ?_
  refine j_bipush 12 (v := 50) dX8_copy_10 rfl rfl ?_
  refine j_copy 15 0 0 50 rfl rfl rfl (by decide) (by decide) dX8_copy_12 rfl rfl ac_X8_38 rfl rfl rfl ?_
  refine j_aload1 16 dX8_copy_15 rfl ?_
  refine j_getR 19 dX8_copy_16 rfl fl_X8_15 rfl rfl ?_
  refine j_iconst 20 (v := 0) dX8_copy_19 rfl rfl ?_
  refine j_aload0 21 dX8_copy_20 rfl ?_
  refine j_getR 24 dX8_copy_21 rfl fl_X8_15 rfl rfl ?_
  refine j_iconst 25 (v := 0) dX8_copy_24 rfl rfl ?_
  refine j_bipush 27 (v := 20) dX8_copy_25 rfl rfl ?_
  refine j_copy 30 0 0 20 rfl rfl rfl (by decide) (by decide) dX8_copy_27 rfl rfl ac_X8_38 rfl rfl rfl ?_
  refine j_aload0 31 dX8_copy_30 rfl ?_
  refine j_getR 34 dX8_copy_31 rfl fl_X8_25 rfl rfl ?_
  refine j_aload1 35 dX8_copy_34 rfl ?_
  refine j_getR 38 dX8_copy_35 rfl fl_X8_25 rfl rfl ?_
  refine j_vi1w 41 dX8_copy_38 rfl rfl cl_X8_44 rfl rfl (c_lcopy_39_50 _ n0 hn0 (by rw [cpy_n (by decide), cpy_n (by decide)]; exact a0.trans en0)) (fun m38 q38 => ?_)
  refine j_aload0 42 dX8_copy_41 rfl ?_
  refine j_getR 45 dX8_copy_42 rfl fl_X8_31 rfl rfl ?_
  refine j_aload1 46 dX8_copy_45 rfl ?_
  refine j_getR 49 dX8_copy_46 rfl fl_X8_31 rfl rfl ?_
  refine j_vi1w 52 dX8_copy_49 rfl rfl cl_X8_44 rfl rfl (c_lcopy_43_54 _ n1 hn1 (by rw [q38.2.2.2 54 (by decide), cpy_n (by decide), cpy_n (by decide)]; exact a1.trans en1)) (fun m49 q49 => ?_)
  refine j_aload0 53 dX8_copy_52 rfl ?_
  refine j_aload1 54 dX8_copy_53 rfl ?_
  refine j_getI 57 dX8_copy_54 rfl fl_X8_48 rfl rfl ?_
  refine j_putI 60 dX8_copy_57 rfl fp_X8_48 rfl rfl ?_
  refine j_aload0 61 dX8_copy_60 rfl ?_
  refine j_aload1 62 dX8_copy_61 rfl ?_
  refine j_getI 65 dX8_copy_62 rfl fl_X8_51 rfl rfl ?_
  refine j_putI 68 dX8_copy_65 rfl fp_X8_51 rfl rfl ?_
  refine j_aload0 69 dX8_copy_68 rfl ?_
  refine j_aload1 70 dX8_copy_69 rfl ?_
  refine j_getI 73 dX8_copy_70 rfl fl_X8_34 rfl rfl ?_
  refine j_putI 76 dX8_copy_73 rfl fp_X8_34 rfl rfl ?_
  refine j_vret dX8_copy_76 rfl ?_
  refine ⟨rfl, ⟨?_, ?_, ?_, fun i hi => ?_, fun i hi => ?_, ⟨?_, ?_, fun j hj => ?_⟩, ⟨?_, ?_, fun j hj => ?_⟩⟩, fun k hk => ?_, fun k hk => ?_, ?_⟩
  · rw [up2_k (by decide), up2_k (by decide), up2_s, q49.2.2.2 47 (by decide), q38.2.2.2 47 (by decide), cpy_n (by decide), cpy_n (by decide)]; exact p4
  · rw [up2_k (by decide), up2_s, up2_a (by decide), q49.2.2.2 47 (by decide), q38.2.2.2 47 (by decide), cpy_n (by decide), cpy_n (by decide)]; exact p5
  · rw [up2_s, up2_a (by decide), up2_a (by decide), q49.2.2.2 47 (by decide), q38.2.2.2 47 (by decide), cpy_n (by decide), cpy_n (by decide)]; exact p6
  · rw [up2_a (by decide), up2_a (by decide), up2_a (by decide), q49.2.2.2 37 (by decide), q38.2.2.2 37 (by decide), cpy_n (by decide), cpy_s hi]; exact pt i hi
  · rw [up2_a (by decide), up2_a (by decide), up2_a (by decide), q49.2.2.2 38 (by decide), q38.2.2.2 38 (by decide), cpy_s hi, cpy_n (by decide)]; exact pw i hi
  · rw [up2_a (by decide), up2_a (by decide), up2_a (by decide), q49.2.2.2 39 (by decide), q38.1]; exact en0.symm
  · rw [up2_a (by decide), up2_a (by decide), up2_a (by decide), q49.2.2.2 39 (by decide), q38.2.1 1 (by decide), cpy_n (by decide), cpy_n (by decide)]; exact hm0
  · rw [en0, nI_clamp (by omega)] at hj
    rw [up2_a (by decide), up2_a (by decide), up2_a (by decide), q49.2.2.2 40 (by decide), q38.2.2.1 j hj, cpy_n (by decide), cpy_n (by decide)]; exact c0 j hj
  · rw [up2_a (by decide), up2_a (by decide), up2_a (by decide), q49.1]; exact en1.symm
  · rw [up2_a (by decide), up2_a (by decide), up2_a (by decide), q49.2.1 1 (by decide), q38.2.2.2 43 (by decide), cpy_n (by decide), cpy_n (by decide)]; exact hm1
  · rw [en1, nI_clamp (by omega)] at hj
    rw [up2_a (by decide), up2_a (by decide), up2_a (by decide), q49.2.2.1 j hj, q38.2.2.2 55 (by decide), cpy_n (by decide), cpy_n (by decide)]; exact c1 j hj
  · rw [up2_a (by decide), up2_a (by decide), up2_a (by decide), q49.2.2.2 39 (by decide), q38.2.1 k hk, cpy_n (by decide), cpy_n (by decide)]
  · rw [up2_a (by decide), up2_a (by decide), up2_a (by decide), q49.2.1 k hk, q38.2.2.2 43 (by decide), cpy_n (by decide), cpy_n (by decide)]
  · exact (((((((Sm.rf.cpy (by decide)).cpy (by decide)).trans (q38.2.2.2.mono (by decide))).trans (q49.2.2.2.mono (by decide))).up (by decide)).up (by decide)).up (by decide))
set_option maxRecDepth 100000 in
theorem c_draw (m : Mem) : JM l g 0 mX8_draw [rf g 36] m (RF (some (.int (((m 36 6 * 1103515245 + 12345).toUInt32 >>> ((8 : Int32).toUInt32 &&& Int32.toUInt32 31)).toInt32))) (up2 m 36 6 (m 36 6 * 1103515245 + 12345))) := by
  refine JM_of (ls := [some (rf g 36)]) pn_X8 rfl rfl ?_
  refine j_aload0 1 dX8_draw_0 rfl ?_
  refine j_aload0 2 dX8_draw_1 rfl ?_
  refine j_getI 5 dX8_draw_2 rfl fl_X8_34 rfl rfl ?_
  refine j_ldc 7 dX8_draw_5 rfl kc_X8_54 ?_
  refine j_imul 8 dX8_draw_7 rfl ?_
  refine j_sipush 11 (v := 12345) dX8_draw_8 rfl rfl ?_
  refine j_iadd 12 dX8_draw_11 rfl ?_
  refine j_putI 15 dX8_draw_12 rfl fp_X8_34 rfl rfl ?_
  refine j_aload0 16 dX8_draw_15 rfl ?_
  refine j_getI 19 dX8_draw_16 rfl fl_X8_34 rfl rfl ?_
  refine j_bipush 21 (v := 8) dX8_draw_19 rfl rfl ?_
  refine j_iushr 22 dX8_draw_21 rfl ?_
  refine j_iret dX8_draw_22 rfl ?_
  exact ⟨by rw [up2_s], rfl⟩
set_option maxRecDepth 100000 in
theorem c_ptake (m : Mem) (n : Nat) (v : Int32) (hn : n < 50) (hf : m 36 4 = nI n) : JM l g 0 mX8_take [rf g 36, .int v] m (RF none (up2 (up2 m 37 n v) 36 4 (nI (n + 1)))) := by
  refine JM_of (ls := [some (rf g 36), some (.int v)]) pn_X8 rfl rfl ?_
  refine j_aload0 1 dX8_take_0 rfl ?_
  refine j_getI 4 dX8_take_1 rfl fl_X8_48 rfl rfl ?_
  refine j_if_lt 36 7 dX8_take_4 rfl rfl (fun h4 => absurd h4 (by rw [hf]; exact nI_pos (by omega))) (fun h4 => ?_)
  refine j_aload0 8 dX8_take_7 rfl ?_
  refine j_getI 11 dX8_take_8 rfl fl_X8_48 rfl rfl ?_
  refine j_bipush 13 (v := 50) dX8_take_11 rfl rfl ?_
  refine j_cmp_ge 36 16 dX8_take_13 rfl rfl (fun h13 => absurd h13 (by rw [hf]; exact nI_ge (a := n) (b := 50) hn (by decide))) (fun h13 => ?_)
  refine j_aload0 17 dX8_take_16 rfl ?_
  refine j_getR 20 dX8_take_17 rfl fl_X8_9 rfl rfl ?_
  refine j_aload0 21 dX8_take_20 rfl ?_
  refine j_getI 24 dX8_take_21 rfl fl_X8_48 rfl rfl ?_
  refine j_iload1 25 dX8_take_24 rfl ?_
  refine j_iast 26 n hf hn dX8_take_25 rfl rfl ?_
  refine j_aload0 27 dX8_take_26 rfl ?_
  refine j_dup 28 dX8_take_27 rfl rfl ?_
  refine j_getI 31 dX8_take_28 rfl fl_X8_48 rfl rfl ?_
  refine j_iconst 32 (v := 1) dX8_take_31 rfl rfl ?_
  refine j_iadd 33 dX8_take_32 rfl ?_
  refine j_putI 36 dX8_take_33 rfl fp_X8_48 rfl rfl ?_
  refine j_vret dX8_take_36 rfl ?_
  exact ⟨rfl, by rw [up2_a (by decide), hf, nI_1]⟩
set_option maxRecDepth 100000 in
theorem c_keepW (m : Mem) (n : Nat) (v : Int32) (hn : n < 20) (hf : m 36 5 = nI n) : JM l g 0 mX8_keepWaiting [rf g 36, .int v] m (RF none (up2 (up2 m 38 n v) 36 5 (nI (n + 1)))) := by
  refine JM_of (ls := [some (rf g 36), some (.int v)]) pn_X8 rfl rfl ?_
  refine j_aload0 1 dX8_keepWaiting_0 rfl ?_
  refine j_getI 4 dX8_keepWaiting_1 rfl fl_X8_51 rfl rfl ?_
  refine j_if_lt 36 7 dX8_keepWaiting_4 rfl rfl (fun h4 => absurd h4 (by rw [hf]; exact nI_pos (by omega))) (fun h4 => ?_)
  refine j_aload0 8 dX8_keepWaiting_7 rfl ?_
  refine j_getI 11 dX8_keepWaiting_8 rfl fl_X8_51 rfl rfl ?_
  refine j_bipush 13 (v := 20) dX8_keepWaiting_11 rfl rfl ?_
  refine j_cmp_ge 36 16 dX8_keepWaiting_13 rfl rfl (fun h13 => absurd h13 (by rw [hf]; exact nI_ge (a := n) (b := 20) hn (by decide))) (fun h13 => ?_)
  refine j_aload0 17 dX8_keepWaiting_16 rfl ?_
  refine j_getR 20 dX8_keepWaiting_17 rfl fl_X8_15 rfl rfl ?_
  refine j_aload0 21 dX8_keepWaiting_20 rfl ?_
  refine j_getI 24 dX8_keepWaiting_21 rfl fl_X8_51 rfl rfl ?_
  refine j_iload1 25 dX8_keepWaiting_24 rfl ?_
  refine j_iast 26 n hf hn dX8_keepWaiting_25 rfl rfl ?_
  refine j_aload0 27 dX8_keepWaiting_26 rfl ?_
  refine j_dup 28 dX8_keepWaiting_27 rfl rfl ?_
  refine j_getI 31 dX8_keepWaiting_28 rfl fl_X8_51 rfl rfl ?_
  refine j_iconst 32 (v := 1) dX8_keepWaiting_31 rfl rfl ?_
  refine j_iadd 33 dX8_keepWaiting_32 rfl ?_
  refine j_putI 36 dX8_keepWaiting_33 rfl fp_X8_51 rfl rfl ?_
  refine j_vret dX8_keepWaiting_36 rfl ?_
  exact ⟨rfl, by rw [up2_a (by decide), hf, nI_1]⟩
end CP
