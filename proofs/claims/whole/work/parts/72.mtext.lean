/-! the reference: the levels -/
theorem lp_f {t : Nat → Int32} {n : Nat} {lv : Int32} {sub : PT → PT} {k : Nat} {s : PT} (h : ¬ (s.2.2 = true ∧ lvO (sgF t n s.1) = lv)) : lpF t n lv sub k s = s := by
  cases k with
  | zero => rfl
  | succ k => exact if_neg h
section O37
variable {l : Launch} {g : Gv}
set_option maxRecDepth 100000 in
theorem ml_product {Q : Option Value → Mem → Prop} (E n o u : Nat) (m0 : Mem) (t : Nat → Int32) (sub : PT → PT) (hx : RX m0 t n u) (Gs : GB n sub) (hsub : KM l g mX12_unit (E + 2) n o m0 sub) : ∀ (k : Nat) (m : Mem) (s : PT) (o1 : Option Value), n ≤ s.1 + k → RR o m0 m s → s.1 ≤ n → s.2.1.length ≤ s.1 → (∀ m', RR o m0 m' (lpF t n (nI 4) sub k s) → Q none m') → J l g (E + 3) mX12_product 4 [some (rf g 68), o1] [] m Q := by
  have hn := hx.2.2.2.2
  intro k
  induction k with
  | zero =>
    intro m s o1 hk h hp hl kk
    have sg1 : sgF t n s.1 = -1 := if_neg (by omega)
    have nh : ∀ c : Int32, c ≠ -1 → ¬ hrF t n s = c := fun c hc q => by
      have := (hr_ok q hc).2
      rw [sg1] at this
      exact hc this.symm
    refine j_aload0 5 dX12_product_4 rfl ?_
    refine j_vi0f 8 dX12_product_5 rfl rfl cl_X12_66 rfl rfl (r_here m m0 o s t n u hx h hp) ?_
    refine j_bipush 10 (v := 42) dX12_product_8 rfl rfl ?_
    refine j_cmp_eq 31 13 dX12_product_10 rfl rfl (fun h10 => absurd h10 (nh 42 (by decide))) (fun h10 => ?_)
    refine j_aload0 14 dX12_product_13 rfl ?_
    refine j_vi0f 17 dX12_product_14 rfl rfl cl_X12_66 rfl rfl (r_here m m0 o s t n u hx h hp) ?_
    refine j_bipush 19 (v := 47) dX12_product_17 rfl rfl ?_
    refine j_cmp_eq 31 22 dX12_product_19 rfl rfl (fun h19 => absurd h19 (nh 47 (by decide))) (fun h19 => ?_)
    refine j_aload0 23 dX12_product_22 rfl ?_
    refine j_vi0f 26 dX12_product_23 rfl rfl cl_X12_66 rfl rfl (r_here m m0 o s t n u hx h hp) ?_
    refine j_bipush 28 (v := 37) dX12_product_26 rfl rfl ?_
    refine j_cmp_ne 62 31 dX12_product_28 rfl rfl (fun h28 => ?_) (fun h28 => absurd h28 (nh 37 (by decide)))
    refine j_vret dX12_product_62 rfl ?_
    exact kk m h
  | succ k ih =>
    intro m s o1 hk h hp hl kk
    by_cases hm : s.2.2 = true ∧ lvO (sgF t n s.1) = nI 4
    · have lt := lvl_lt (by decide) hm.2
      have gs := Gs (avF s) hm.1 lt
      have g3 : (sub (avF s)).2.1.length + (s.1 + 1) ≤ (sub (avF s)).1 + s.2.1.length := gs.2.2
      have g1 : s.1 + 1 ≤ (sub (avF s)).1 := gs.1
      have eh : hrF t n s = sgF t n s.1 := if_pos hm.1
      have kk1 := kk
      rw [show lpF t n (nI 4) sub (k + 1) s = lpF t n (nI 4) sub k (wrF (20000 + sgF t n s.1) (sub (avF s))) from if_pos hm] at kk1
      have wl := wr_len (20000 + sgF t n s.1) (sub (avF s))
      have tl : ∀ o1, J l g (E + 3) mX12_product 31 [some (rf g 68), o1] [] m Q := by
        intro o1
        refine j_aload0 32 dX12_product_31 rfl ?_
        refine j_vi0f 35 dX12_product_32 rfl rfl cl_X12_66 rfl rfl (r_here m m0 o s t n u hx h hp) ?_
        refine j_top eh ?_
        refine j_istore1 36 dX12_product_35 rfl rfl rfl ?_
        refine j_aload0 37 dX12_product_36 rfl ?_
        refine j_dup 38 dX12_product_37 rfl rfl ?_
        refine j_getI 41 dX12_product_38 rfl fl_X12_53 rfl rfl ?_
        refine j_top h.1 ?_
        refine j_iconst 42 (v := 1) dX12_product_41 rfl rfl ?_
        refine j_iadd 43 dX12_product_42 rfl ?_
        refine j_top (nI_1 s.1) ?_
        refine j_putI 46 dX12_product_43 rfl fp_X12_53 rfl rfl ?_
        refine j_aload0 47 dX12_product_46 rfl ?_
        refine j_vi0w 50 dX12_product_47 rfl (blt_ok (Nat.lt_succ_self (E + 2))) cl_X12_97 rfl rfl (hsub _ (avF s) (RR_av h hm.1) hm.1 lt (show s.2.1.length ≤ s.1 + 1 by omega)) (fun m47 q47 => ?_)
        refine j_aload0 51 dX12_product_50 rfl ?_
        refine j_sipush 54 (v := 20000) dX12_product_51 rfl rfl ?_
        refine j_iload1 55 dX12_product_54 rfl ?_
        refine j_iadd 56 dX12_product_55 rfl ?_
        refine j_vi1w 59 dX12_product_56 rfl rfl cl_X12_84 rfl rfl (r_lay m47 m0 o (sub (avF s)) (20000 + sgF t n s.1) q47 (fun _ => by have := gs.2.1; omega) (by have := gs.2.1; omega)) (fun m56 q56 => ?_)
        refine j_goto 4 dX12_product_59 rfl ?_
        exact ih m56 (wrF (20000 + sgF t n s.1) (sub (avF s))) _ (by rw [wr_1]; omega) q56 (by rw [wr_1]; exact gs.2.1) (by rw [wr_1]; omega) kk1
      refine j_aload0 5 dX12_product_4 rfl ?_
      refine j_vi0f 8 dX12_product_5 rfl rfl cl_X12_66 rfl rfl (r_here m m0 o s t n u hx h hp) ?_
      refine j_bipush 10 (v := 42) dX12_product_8 rfl rfl ?_
      refine j_cmp_eq 31 13 dX12_product_10 rfl rfl (fun h10 => ?_) (fun h10 => ?_)
      · exact tl _
      · refine j_aload0 14 dX12_product_13 rfl ?_
        refine j_vi0f 17 dX12_product_14 rfl rfl cl_X12_66 rfl rfl (r_here m m0 o s t n u hx h hp) ?_
        refine j_bipush 19 (v := 47) dX12_product_17 rfl rfl ?_
        refine j_cmp_eq 31 22 dX12_product_19 rfl rfl (fun h19 => ?_) (fun h19 => ?_)
        · exact tl _
        · refine j_aload0 23 dX12_product_22 rfl ?_
          refine j_vi0f 26 dX12_product_23 rfl rfl cl_X12_66 rfl rfl (r_here m m0 o s t n u hx h hp) ?_
          refine j_bipush 28 (v := 37) dX12_product_26 rfl rfl ?_
          refine j_cmp_ne 62 31 dX12_product_28 rfl rfl (fun h28 => ?_) (fun h28 => ?_)
          · exact absurd (lv4.mp hm.2) (by rw [eh] at h10 h19 h28; exact fun q => q.elim h10 (fun q => q.elim h19 h28))
          · exact tl _
    · have kk1 := kk
      rw [lp_f hm] at kk1
      have nh : ∀ c : Int32, c ≠ -1 → lvO c = nI 4 → ¬ hrF t n s = c := fun c hc hv q => hm ⟨(hr_ok q hc).1, by rw [(hr_ok q hc).2]; exact hv⟩
      refine j_aload0 5 dX12_product_4 rfl ?_
      refine j_vi0f 8 dX12_product_5 rfl rfl cl_X12_66 rfl rfl (r_here m m0 o s t n u hx h hp) ?_
      refine j_bipush 10 (v := 42) dX12_product_8 rfl rfl ?_
      refine j_cmp_eq 31 13 dX12_product_10 rfl rfl (fun h10 => absurd h10 (nh 42 (by decide) (by decide))) (fun h10 => ?_)
      refine j_aload0 14 dX12_product_13 rfl ?_
      refine j_vi0f 17 dX12_product_14 rfl rfl cl_X12_66 rfl rfl (r_here m m0 o s t n u hx h hp) ?_
      refine j_bipush 19 (v := 47) dX12_product_17 rfl rfl ?_
      refine j_cmp_eq 31 22 dX12_product_19 rfl rfl (fun h19 => absurd h19 (nh 47 (by decide) (by decide))) (fun h19 => ?_)
      refine j_aload0 23 dX12_product_22 rfl ?_
      refine j_vi0f 26 dX12_product_23 rfl rfl cl_X12_66 rfl rfl (r_here m m0 o s t n u hx h hp) ?_
      refine j_bipush 28 (v := 37) dX12_product_26 rfl rfl ?_
      refine j_cmp_ne 62 31 dX12_product_28 rfl rfl (fun h28 => ?_) (fun h28 => absurd h28 (nh 37 (by decide) (by decide)))
      refine j_vret dX12_product_62 rfl ?_
      exact kk1 m h
set_option maxRecDepth 100000 in
theorem ml_sum {Q : Option Value → Mem → Prop} (E n o u : Nat) (m0 : Mem) (t : Nat → Int32) (sub : PT → PT) (hx : RX m0 t n u) (Gs : GB n sub) (hsub : KM l g mX12_product (E + 2) n o m0 sub) : ∀ (k : Nat) (m : Mem) (s : PT) (o1 : Option Value), n ≤ s.1 + k → RR o m0 m s → s.1 ≤ n → s.2.1.length ≤ s.1 → (∀ m', RR o m0 m' (lpF t n (nI 3) sub k s) → Q none m') → J l g (E + 3) mX12_sum 4 [some (rf g 68), o1] [] m Q := by
  have hn := hx.2.2.2.2
  intro k
  induction k with
  | zero =>
    intro m s o1 hk h hp hl kk
    have sg1 : sgF t n s.1 = -1 := if_neg (by omega)
    have nh : ∀ c : Int32, c ≠ -1 → ¬ hrF t n s = c := fun c hc q => by
      have := (hr_ok q hc).2
      rw [sg1] at this
      exact hc this.symm
    refine j_aload0 5 dX12_sum_4 rfl ?_
    refine j_vi0f 8 dX12_sum_5 rfl rfl cl_X12_66 rfl rfl (r_here m m0 o s t n u hx h hp) ?_
    refine j_bipush 10 (v := 43) dX12_sum_8 rfl rfl ?_
    refine j_cmp_eq 22 13 dX12_sum_10 rfl rfl (fun h10 => absurd h10 (nh 43 (by decide))) (fun h10 => ?_)
    refine j_aload0 14 dX12_sum_13 rfl ?_
    refine j_vi0f 17 dX12_sum_14 rfl rfl cl_X12_66 rfl rfl (r_here m m0 o s t n u hx h hp) ?_
    refine j_bipush 19 (v := 45) dX12_sum_17 rfl rfl ?_
    refine j_cmp_ne 53 22 dX12_sum_19 rfl rfl (fun h19 => ?_) (fun h19 => absurd h19 (nh 45 (by decide)))
    refine j_vret dX12_sum_53 rfl ?_
    exact kk m h
  | succ k ih =>
    intro m s o1 hk h hp hl kk
    by_cases hm : s.2.2 = true ∧ lvO (sgF t n s.1) = nI 3
    · have lt := lvl_lt (by decide) hm.2
      have gs := Gs (avF s) hm.1 lt
      have g3 : (sub (avF s)).2.1.length + (s.1 + 1) ≤ (sub (avF s)).1 + s.2.1.length := gs.2.2
      have g1 : s.1 + 1 ≤ (sub (avF s)).1 := gs.1
      have eh : hrF t n s = sgF t n s.1 := if_pos hm.1
      have kk1 := kk
      rw [show lpF t n (nI 3) sub (k + 1) s = lpF t n (nI 3) sub k (wrF (20000 + sgF t n s.1) (sub (avF s))) from if_pos hm] at kk1
      have wl := wr_len (20000 + sgF t n s.1) (sub (avF s))
      have tl : ∀ o1, J l g (E + 3) mX12_sum 22 [some (rf g 68), o1] [] m Q := by
        intro o1
        refine j_aload0 23 dX12_sum_22 rfl ?_
        refine j_vi0f 26 dX12_sum_23 rfl rfl cl_X12_66 rfl rfl (r_here m m0 o s t n u hx h hp) ?_
        refine j_top eh ?_
        refine j_istore1 27 dX12_sum_26 rfl rfl rfl ?_
        refine j_aload0 28 dX12_sum_27 rfl ?_
        refine j_dup 29 dX12_sum_28 rfl rfl ?_
        refine j_getI 32 dX12_sum_29 rfl fl_X12_53 rfl rfl ?_
        refine j_top h.1 ?_
        refine j_iconst 33 (v := 1) dX12_sum_32 rfl rfl ?_
        refine j_iadd 34 dX12_sum_33 rfl ?_
        refine j_top (nI_1 s.1) ?_
        refine j_putI 37 dX12_sum_34 rfl fp_X12_53 rfl rfl ?_
        refine j_aload0 38 dX12_sum_37 rfl ?_
        refine j_vi0w 41 dX12_sum_38 rfl (blt_ok (Nat.lt_succ_self (E + 2))) cl_X12_94 rfl rfl (hsub _ (avF s) (RR_av h hm.1) hm.1 lt (show s.2.1.length ≤ s.1 + 1 by omega)) (fun m38 q38 => ?_)
        refine j_aload0 42 dX12_sum_41 rfl ?_
        refine j_sipush 45 (v := 20000) dX12_sum_42 rfl rfl ?_
        refine j_iload1 46 dX12_sum_45 rfl ?_
        refine j_iadd 47 dX12_sum_46 rfl ?_
        refine j_vi1w 50 dX12_sum_47 rfl rfl cl_X12_84 rfl rfl (r_lay m38 m0 o (sub (avF s)) (20000 + sgF t n s.1) q38 (fun _ => by have := gs.2.1; omega) (by have := gs.2.1; omega)) (fun m47 q47 => ?_)
        refine j_goto 4 dX12_sum_50 rfl ?_
        exact ih m47 (wrF (20000 + sgF t n s.1) (sub (avF s))) _ (by rw [wr_1]; omega) q47 (by rw [wr_1]; exact gs.2.1) (by rw [wr_1]; omega) kk1
      refine j_aload0 5 dX12_sum_4 rfl ?_
      refine j_vi0f 8 dX12_sum_5 rfl rfl cl_X12_66 rfl rfl (r_here m m0 o s t n u hx h hp) ?_
      refine j_bipush 10 (v := 43) dX12_sum_8 rfl rfl ?_
      refine j_cmp_eq 22 13 dX12_sum_10 rfl rfl (fun h10 => ?_) (fun h10 => ?_)
      · exact tl _
      · refine j_aload0 14 dX12_sum_13 rfl ?_
        refine j_vi0f 17 dX12_sum_14 rfl rfl cl_X12_66 rfl rfl (r_here m m0 o s t n u hx h hp) ?_
        refine j_bipush 19 (v := 45) dX12_sum_17 rfl rfl ?_
        refine j_cmp_ne 53 22 dX12_sum_19 rfl rfl (fun h19 => ?_) (fun h19 => ?_)
        · exact absurd (lv3.mp hm.2) (by rw [eh] at h10 h19; exact fun q => q.elim h10 h19)
        · exact tl _
    · have kk1 := kk
      rw [lp_f hm] at kk1
      have nh : ∀ c : Int32, c ≠ -1 → lvO c = nI 3 → ¬ hrF t n s = c := fun c hc hv q => hm ⟨(hr_ok q hc).1, by rw [(hr_ok q hc).2]; exact hv⟩
      refine j_aload0 5 dX12_sum_4 rfl ?_
      refine j_vi0f 8 dX12_sum_5 rfl rfl cl_X12_66 rfl rfl (r_here m m0 o s t n u hx h hp) ?_
      refine j_bipush 10 (v := 43) dX12_sum_8 rfl rfl ?_
      refine j_cmp_eq 22 13 dX12_sum_10 rfl rfl (fun h10 => absurd h10 (nh 43 (by decide) (by decide))) (fun h10 => ?_)
      refine j_aload0 14 dX12_sum_13 rfl ?_
      refine j_vi0f 17 dX12_sum_14 rfl rfl cl_X12_66 rfl rfl (r_here m m0 o s t n u hx h hp) ?_
      refine j_bipush 19 (v := 45) dX12_sum_17 rfl rfl ?_
      refine j_cmp_ne 53 22 dX12_sum_19 rfl rfl (fun h19 => ?_) (fun h19 => absurd h19 (nh 45 (by decide) (by decide)))
      refine j_vret dX12_sum_53 rfl ?_
      exact kk1 m h
set_option maxRecDepth 100000 in
theorem ml_both {Q : Option Value → Mem → Prop} (E n o u : Nat) (m0 : Mem) (t : Nat → Int32) (sub : PT → PT) (hx : RX m0 t n u) (Gs : GB n sub) (hsub : KM l g mX12_compared (E + 2) n o m0 sub) : ∀ (k : Nat) (m : Mem) (s : PT), n ≤ s.1 + k → RR o m0 m s → s.1 ≤ n → s.2.1.length ≤ s.1 → (∀ m', RR o m0 m' (lpF t n (nI 1) sub k s) → Q none m') → J l g (E + 3) mX12_both 4 [some (rf g 68)] [] m Q := by
  have hn := hx.2.2.2.2
  intro k
  induction k with
  | zero =>
    intro m s hk h hp hl kk
    have sg1 : sgF t n s.1 = -1 := if_neg (by omega)
    have nh : ¬ hrF t n s = 38 := fun q => by
      have := (hr_ok q (by decide)).2
      rw [sg1] at this
      exact absurd this (by decide)
    refine j_aload0 5 dX12_both_4 rfl ?_
    refine j_bipush 7 (v := 38) dX12_both_5 rfl rfl ?_
    refine j_vi1s 10 dX12_both_7 rfl rfl cl_X12_80 rfl rfl (r_takes m m0 o s t n u 38 (by decide) hx h hp) (fun m7 q7 => ?_)
    refine j_if_eq_bz 27 13 dX12_both_10 rfl rfl (fun h10 => ?_) (fun h10 => absurd h10 nh)
    refine j_vret dX12_both_27 rfl ?_
    exact kk m7 (by rw [if_neg nh] at q7; exact q7)
  | succ k ih =>
    intro m s hk h hp hl kk
    by_cases hm : s.2.2 = true ∧ lvO (sgF t n s.1) = nI 1
    · have lt := lvl_lt (by decide) hm.2
      have gs := Gs (avF s) hm.1 lt
      have g3 : (sub (avF s)).2.1.length + (s.1 + 1) ≤ (sub (avF s)).1 + s.2.1.length := gs.2.2
      have g1 : s.1 + 1 ≤ (sub (avF s)).1 := gs.1
      have ec : sgF t n s.1 = 38 := lv1.mp hm.2
      have yh : hrF t n s = 38 := (if_pos hm.1).trans ec
      have kk1 := kk
      rw [show lpF t n (nI 1) sub (k + 1) s = lpF t n (nI 1) sub k (wrF (20000 + sgF t n s.1) (sub (avF s))) from if_pos hm, ec] at kk1
      have wl := wr_len 20038 (sub (avF s))
      refine j_aload0 5 dX12_both_4 rfl ?_
      refine j_bipush 7 (v := 38) dX12_both_5 rfl rfl ?_
      refine j_vi1s 10 dX12_both_7 rfl rfl cl_X12_80 rfl rfl (r_takes m m0 o s t n u 38 (by decide) hx h hp) (fun m7 q7 => ?_)
      refine j_if_eq_bz 27 13 dX12_both_10 rfl rfl (fun h10 => absurd yh h10) (fun h10 => ?_)
      rw [if_pos yh] at q7
      refine j_aload0 14 dX12_both_13 rfl ?_
      refine j_vi0w 17 dX12_both_14 rfl (blt_ok (Nat.lt_succ_self (E + 2))) cl_X12_88 rfl rfl (hsub m7 (avF s) q7 hm.1 lt (show s.2.1.length ≤ s.1 + 1 by omega)) (fun m14 q14 => ?_)
      refine j_aload0 18 dX12_both_17 rfl ?_
      refine j_sipush 21 (v := 20038) dX12_both_18 rfl rfl ?_
      refine j_vi1w 24 dX12_both_21 rfl rfl cl_X12_84 rfl rfl (r_lay m14 m0 o (sub (avF s)) 20038 q14 (fun _ => by have := gs.2.1; omega) (by have := gs.2.1; omega)) (fun m21 q21 => ?_)
      refine j_goto 4 dX12_both_24 rfl ?_
      exact ih m21 (wrF 20038 (sub (avF s))) (by rw [wr_1]; omega) q21 (by rw [wr_1]; exact gs.2.1) (by rw [wr_1]; omega) kk1
    · have nh : ¬ hrF t n s = 38 := fun q => hm ⟨(hr_ok q (by decide)).1, by rw [(hr_ok q (by decide)).2]; decide⟩
      have kk1 := kk
      rw [lp_f hm] at kk1
      refine j_aload0 5 dX12_both_4 rfl ?_
      refine j_bipush 7 (v := 38) dX12_both_5 rfl rfl ?_
      refine j_vi1s 10 dX12_both_7 rfl rfl cl_X12_80 rfl rfl (r_takes m m0 o s t n u 38 (by decide) hx h hp) (fun m7 q7 => ?_)
      refine j_if_eq_bz 27 13 dX12_both_10 rfl rfl (fun h10 => ?_) (fun h10 => absurd h10 nh)
      refine j_vret dX12_both_27 rfl ?_
      exact kk1 m7 (by rw [if_neg nh] at q7; exact q7)
set_option maxRecDepth 100000 in
theorem ml_either {Q : Option Value → Mem → Prop} (E n o u : Nat) (m0 : Mem) (t : Nat → Int32) (sub : PT → PT) (hx : RX m0 t n u) (Gs : GB n sub) (hsub : KM l g mX12_both (E + 2) n o m0 sub) : ∀ (k : Nat) (m : Mem) (s : PT), n ≤ s.1 + k → RR o m0 m s → s.1 ≤ n → s.2.1.length ≤ s.1 → (∀ m', RR o m0 m' (lpF t n (nI 0) sub k s) → Q none m') → J l g (E + 3) mX12_either 4 [some (rf g 68)] [] m Q := by
  have hn := hx.2.2.2.2
  intro k
  induction k with
  | zero =>
    intro m s hk h hp hl kk
    have sg1 : sgF t n s.1 = -1 := if_neg (by omega)
    have nh : ¬ hrF t n s = 124 := fun q => by
      have := (hr_ok q (by decide)).2
      rw [sg1] at this
      exact absurd this (by decide)
    refine j_aload0 5 dX12_either_4 rfl ?_
    refine j_bipush 7 (v := 124) dX12_either_5 rfl rfl ?_
    refine j_vi1s 10 dX12_either_7 rfl rfl cl_X12_80 rfl rfl (r_takes m m0 o s t n u 124 (by decide) hx h hp) (fun m7 q7 => ?_)
    refine j_if_eq_bz 27 13 dX12_either_10 rfl rfl (fun h10 => ?_) (fun h10 => absurd h10 nh)
    refine j_vret dX12_either_27 rfl ?_
    exact kk m7 (by rw [if_neg nh] at q7; exact q7)
  | succ k ih =>
    intro m s hk h hp hl kk
    by_cases hm : s.2.2 = true ∧ lvO (sgF t n s.1) = nI 0
    · have lt := lvl_lt (by decide) hm.2
      have gs := Gs (avF s) hm.1 lt
      have g3 : (sub (avF s)).2.1.length + (s.1 + 1) ≤ (sub (avF s)).1 + s.2.1.length := gs.2.2
      have g1 : s.1 + 1 ≤ (sub (avF s)).1 := gs.1
      have ec : sgF t n s.1 = 124 := lv0.mp hm.2
      have yh : hrF t n s = 124 := (if_pos hm.1).trans ec
      have kk1 := kk
      rw [show lpF t n (nI 0) sub (k + 1) s = lpF t n (nI 0) sub k (wrF (20000 + sgF t n s.1) (sub (avF s))) from if_pos hm, ec] at kk1
      have wl := wr_len 20124 (sub (avF s))
      refine j_aload0 5 dX12_either_4 rfl ?_
      refine j_bipush 7 (v := 124) dX12_either_5 rfl rfl ?_
      refine j_vi1s 10 dX12_either_7 rfl rfl cl_X12_80 rfl rfl (r_takes m m0 o s t n u 124 (by decide) hx h hp) (fun m7 q7 => ?_)
      refine j_if_eq_bz 27 13 dX12_either_10 rfl rfl (fun h10 => absurd yh h10) (fun h10 => ?_)
      rw [if_pos yh] at q7
      refine j_aload0 14 dX12_either_13 rfl ?_
      refine j_vi0w 17 dX12_either_14 rfl (blt_ok (Nat.lt_succ_self (E + 2))) cl_X12_77 rfl rfl (hsub m7 (avF s) q7 hm.1 lt (show s.2.1.length ≤ s.1 + 1 by omega)) (fun m14 q14 => ?_)
      refine j_aload0 18 dX12_either_17 rfl ?_
      refine j_sipush 21 (v := 20124) dX12_either_18 rfl rfl ?_
      refine j_vi1w 24 dX12_either_21 rfl rfl cl_X12_84 rfl rfl (r_lay m14 m0 o (sub (avF s)) 20124 q14 (fun _ => by have := gs.2.1; omega) (by have := gs.2.1; omega)) (fun m21 q21 => ?_)
      refine j_goto 4 dX12_either_24 rfl ?_
      exact ih m21 (wrF 20124 (sub (avF s))) (by rw [wr_1]; omega) q21 (by rw [wr_1]; exact gs.2.1) (by rw [wr_1]; omega) kk1
    · have nh : ¬ hrF t n s = 124 := fun q => hm ⟨(hr_ok q (by decide)).1, by rw [(hr_ok q (by decide)).2]; decide⟩
      have kk1 := kk
      rw [lp_f hm] at kk1
      refine j_aload0 5 dX12_either_4 rfl ?_
      refine j_bipush 7 (v := 124) dX12_either_5 rfl rfl ?_
      refine j_vi1s 10 dX12_either_7 rfl rfl cl_X12_80 rfl rfl (r_takes m m0 o s t n u 124 (by decide) hx h hp) (fun m7 q7 => ?_)
      refine j_if_eq_bz 27 13 dX12_either_10 rfl rfl (fun h10 => ?_) (fun h10 => absurd h10 nh)
      refine j_vret dX12_either_27 rfl ?_
      exact kk1 m7 (by rw [if_neg nh] at q7; exact q7)
theorem kl_product (E n o u : Nat) (m0 : Mem) (t : Nat → Int32) (pf : PT → PT) (hx : RX m0 t n u) (Gp : GB n pf) (hsub : KM l g mX12_unit (E + 2) n o m0 (leF t n pf 0)) : KM l g mX12_product (E + 3) n o m0 (leF t n pf 1) := by
  intro m s h ok hp hlen
  have Gs := GB_le (t := t) Gp 0 (by decide)
  have gs := Gs s ok hp
  have hn := hx.2.2.2.2
  refine JM_of (ls := [some (rf g 68), none]) pn_X12 rfl rfl ?_
  refine j_aload0 1 dX12_product_0 rfl ?_
  refine j_vi0w 4 dX12_product_1 rfl (blt_ok (Nat.lt_succ_self (E + 2))) cl_X12_97 rfl rfl (hsub m s h ok hp hlen) (fun m1 q1 => ?_)
  exact ml_product E n o u m0 t (leF t n pf 0) hx Gs hsub 50 m1 (leF t n pf 0 s) none (by omega) q1 gs.2.1 (by omega) (fun m' q => ⟨rfl, q⟩)
theorem kl_sum (E n o u : Nat) (m0 : Mem) (t : Nat → Int32) (pf : PT → PT) (hx : RX m0 t n u) (Gp : GB n pf) (hsub : KM l g mX12_product (E + 2) n o m0 (leF t n pf 1)) : KM l g mX12_sum (E + 3) n o m0 (leF t n pf 2) := by
  intro m s h ok hp hlen
  have Gs := GB_le (t := t) Gp 1 (by decide)
  have gs := Gs s ok hp
  have hn := hx.2.2.2.2
  refine JM_of (ls := [some (rf g 68), none]) pn_X12 rfl rfl ?_
  refine j_aload0 1 dX12_sum_0 rfl ?_
  refine j_vi0w 4 dX12_sum_1 rfl (blt_ok (Nat.lt_succ_self (E + 2))) cl_X12_94 rfl rfl (hsub m s h ok hp hlen) (fun m1 q1 => ?_)
  exact ml_sum E n o u m0 t (leF t n pf 1) hx Gs hsub 50 m1 (leF t n pf 1 s) none (by omega) q1 gs.2.1 (by omega) (fun m' q => ⟨rfl, q⟩)
theorem kl_both (E n o u : Nat) (m0 : Mem) (t : Nat → Int32) (pf : PT → PT) (hx : RX m0 t n u) (Gp : GB n pf) (hsub : KM l g mX12_compared (E + 2) n o m0 (leF t n pf 3)) : KM l g mX12_both (E + 3) n o m0 (leF t n pf 4) := by
  intro m s h ok hp hlen
  have Gs := GB_le (t := t) Gp 3 (by decide)
  have gs := Gs s ok hp
  have hn := hx.2.2.2.2
  refine JM_of (ls := [some (rf g 68)]) pn_X12 rfl rfl ?_
  refine j_aload0 1 dX12_both_0 rfl ?_
  refine j_vi0w 4 dX12_both_1 rfl (blt_ok (Nat.lt_succ_self (E + 2))) cl_X12_88 rfl rfl (hsub m s h ok hp hlen) (fun m1 q1 => ?_)
  exact ml_both E n o u m0 t (leF t n pf 3) hx Gs hsub 50 m1 (leF t n pf 3 s) (by omega) q1 gs.2.1 (by omega) (fun m' q => ⟨rfl, q⟩)
theorem kl_either (E n o u : Nat) (m0 : Mem) (t : Nat → Int32) (pf : PT → PT) (hx : RX m0 t n u) (Gp : GB n pf) (hsub : KM l g mX12_both (E + 2) n o m0 (leF t n pf 4)) : KM l g mX12_either (E + 3) n o m0 (leF t n pf 5) := by
  intro m s h ok hp hlen
  have Gs := GB_le (t := t) Gp 4 (by decide)
  have gs := Gs s ok hp
  have hn := hx.2.2.2.2
  refine JM_of (ls := [some (rf g 68)]) pn_X12 rfl rfl ?_
  refine j_aload0 1 dX12_either_0 rfl ?_
  refine j_vi0w 4 dX12_either_1 rfl (blt_ok (Nat.lt_succ_self (E + 2))) cl_X12_77 rfl rfl (hsub m s h ok hp hlen) (fun m1 q1 => ?_)
  exact ml_either E n o u m0 t (leF t n pf 4) hx Gs hsub 50 m1 (leF t n pf 4 s) (by omega) q1 gs.2.1 (by omega) (fun m' q => ⟨rfl, q⟩)
set_option maxRecDepth 100000 in
theorem kl_compared (E n o u : Nat) (m0 : Mem) (t : Nat → Int32) (pf : PT → PT) (hx : RX m0 t n u) (Gp : GB n pf) (hsub : KM l g mX12_sum (E + 2) n o m0 (leF t n pf 2)) : KM l g mX12_compared (E + 3) n o m0 (leF t n pf 3) := by
  intro m s0 h0 ok0 hp0 hlen0
  have Gs := GB_le (t := t) Gp 2 (by decide)
  have gs0 := Gs s0 ok0 hp0
  have hn := hx.2.2.2.2
  have tl : ∀ m, RR o m0 m (leF t n pf 2 s0) → J l g (E + 3) mX12_compared 4 [some (rf g 68), none] [] m (RS none (fun m' => RR o m0 m' (leF t n pf 3 s0))) := by
    show ∀ m, RR o m0 m (leF t n pf 2 s0) → J l g (E + 3) mX12_compared 4 [some (rf g 68), none] [] m (RS none (fun m' => RR o m0 m' (lpF t n (nI 2) (leF t n pf 2) 1 (leF t n pf 2 s0))))
    have hl1 : (leF t n pf 2 s0).2.1.length ≤ (leF t n pf 2 s0).1 := by omega
    have hp1 := gs0.2.1
    revert hl1 hp1
    generalize leF t n pf 2 s0 = s
    intro hl hp m h
    by_cases hm : s.2.2 = true ∧ lvO (sgF t n s.1) = nI 2
    · have lt := lvl_lt (by decide) hm.2
      have gs := Gs (avF s) hm.1 lt
      have g3 : (leF t n pf 2 (avF s)).2.1.length + (s.1 + 1) ≤ (leF t n pf 2 (avF s)).1 + s.2.1.length := gs.2.2
      have eh : hrF t n s = sgF t n s.1 := if_pos hm.1
      rw [show lpF t n (nI 2) (leF t n pf 2) 1 s = wrF (20000 + sgF t n s.1) (leF t n pf 2 (avF s)) from if_pos hm]
      have t27 : J l g (E + 3) mX12_compared 27 [some (rf g 68), some (.int (sgF t n s.1))] [] m (RS none (fun m' => RR o m0 m' (wrF (20000 + sgF t n s.1) (leF t n pf 2 (avF s))))) := by
        refine j_aload0 28 dX12_compared_27 rfl ?_
        refine j_dup 29 dX12_compared_28 rfl rfl ?_
        refine j_getI 32 dX12_compared_29 rfl fl_X12_53 rfl rfl ?_
        refine j_top h.1 ?_
        refine j_iconst 33 (v := 1) dX12_compared_32 rfl rfl ?_
        refine j_iadd 34 dX12_compared_33 rfl ?_
        refine j_top (nI_1 s.1) ?_
        refine j_putI 37 dX12_compared_34 rfl fp_X12_53 rfl rfl ?_
        refine j_aload0 38 dX12_compared_37 rfl ?_
        refine j_vi0w 41 dX12_compared_38 rfl (blt_ok (Nat.lt_succ_self (E + 2))) cl_X12_91 rfl rfl (hsub _ (avF s) (RR_av h hm.1) hm.1 lt (show s.2.1.length ≤ s.1 + 1 by omega)) (fun m38 q38 => ?_)
        refine j_aload0 42 dX12_compared_41 rfl ?_
        refine j_sipush 45 (v := 20000) dX12_compared_42 rfl rfl ?_
        refine j_iload1 46 dX12_compared_45 rfl ?_
        refine j_iadd 47 dX12_compared_46 rfl ?_
        refine j_vi1w 50 dX12_compared_47 rfl rfl cl_X12_84 rfl rfl (r_lay m38 m0 o (leF t n pf 2 (avF s)) (20000 + sgF t n s.1) q38 (fun _ => by have := gs.2.1; omega) (by have := gs.2.1; omega)) (fun m47 q47 => ?_)
        refine j_vret dX12_compared_50 rfl ?_
        exact ⟨rfl, q47⟩
      refine j_aload0 5 dX12_compared_4 rfl ?_
      refine j_vi0f 8 dX12_compared_5 rfl rfl cl_X12_66 rfl rfl (r_here m m0 o s t n u hx h hp) ?_
      refine j_top eh ?_
      refine j_istore1 9 dX12_compared_8 rfl rfl rfl ?_
      refine j_iload1 10 dX12_compared_9 rfl ?_
      refine j_bipush 12 (v := 60) dX12_compared_10 rfl rfl ?_
      refine j_cmp_eq 27 15 dX12_compared_12 rfl rfl (fun h12 => ?_) (fun h12 => ?_)
      · exact t27
      · refine j_iload1 16 dX12_compared_15 rfl ?_
        refine j_bipush 18 (v := 61) dX12_compared_16 rfl rfl ?_
        refine j_cmp_eq 27 21 dX12_compared_18 rfl rfl (fun h18 => ?_) (fun h18 => ?_)
        · exact t27
        · refine j_iload1 22 dX12_compared_21 rfl ?_
          refine j_bipush 24 (v := 62) dX12_compared_22 rfl rfl ?_
          refine j_cmp_ne 50 27 dX12_compared_24 rfl rfl (fun h24 => ?_) (fun h24 => ?_)
          · exact absurd (lv2.mp hm.2) (fun q => q.elim h12 (fun q => q.elim h18 h24))
          · exact t27
    · have nh : ∀ c : Int32, c ≠ -1 → lvO c = nI 2 → ¬ hrF t n s = c := fun c hc hv q => hm ⟨(hr_ok q hc).1, by rw [(hr_ok q hc).2]; exact hv⟩
      rw [lp_f hm]
      refine j_aload0 5 dX12_compared_4 rfl ?_
      refine j_vi0f 8 dX12_compared_5 rfl rfl cl_X12_66 rfl rfl (r_here m m0 o s t n u hx h hp) ?_
      refine j_istore1 9 dX12_compared_8 rfl rfl rfl ?_
      refine j_iload1 10 dX12_compared_9 rfl ?_
      refine j_bipush 12 (v := 60) dX12_compared_10 rfl rfl ?_
      refine j_cmp_eq 27 15 dX12_compared_12 rfl rfl (fun h12 => absurd h12 (nh 60 (by decide) (by decide))) (fun h12 => ?_)
      refine j_iload1 16 dX12_compared_15 rfl ?_
      refine j_bipush 18 (v := 61) dX12_compared_16 rfl rfl ?_
      refine j_cmp_eq 27 21 dX12_compared_18 rfl rfl (fun h18 => absurd h18 (nh 61 (by decide) (by decide))) (fun h18 => ?_)
      refine j_iload1 22 dX12_compared_21 rfl ?_
      refine j_bipush 24 (v := 62) dX12_compared_22 rfl rfl ?_
      refine j_cmp_ne 50 27 dX12_compared_24 rfl rfl (fun h24 => ?_) (fun h24 => absurd h24 (nh 62 (by decide) (by decide)))
      refine j_vret dX12_compared_50 rfl ?_
      exact ⟨rfl, h⟩
  refine JM_of (ls := [some (rf g 68), none]) pn_X12 rfl rfl ?_
  refine j_aload0 1 dX12_compared_0 rfl ?_
  refine j_vi0w 4 dX12_compared_1 rfl (blt_ok (Nat.lt_succ_self (E + 2))) cl_X12_91 rfl rfl (hsub m s0 h0 ok0 hp0 hlen0) (fun m1 q1 => ?_)
  exact tl m1 q1
theorem kl_all (E n o u : Nat) (m0 : Mem) (t : Nat → Int32) (pf : PT → PT) (hx : RX m0 t n u) (Gp : GB n pf) (hpf : KM l g mX12_unit (E + 2) n o m0 pf) : KM l g mX12_either (E + 7) n o m0 (leF t n pf 5) :=
  kl_either (E + 4) n o u m0 t pf hx Gp (kl_both (E + 3) n o u m0 t pf hx Gp (kl_compared (E + 2) n o u m0 t pf hx Gp (kl_sum (E + 1) n o u m0 t pf hx Gp (kl_product E n o u m0 t pf hx Gp hpf))))
theorem KUof_0 (n : Nat) (m0 : Mem) (t : Nat → Int32) (hx : RX m0 t n 0) : ∀ r, r ≤ 5 → KM l g mX12_unit (7 * r + 7) n (5 - r) m0 (paF t n 0 r)
  | 0, _ => unit_0 0 0 0 n 5 m0 t false id id hx (Nat.le_refl _) ⟨fun h => (by cases h), fun h => absurd h (by decide)⟩ rfl rfl (fun h => (by cases h)) (fun h => (by cases h)) (fun h => (by cases h)) (fun h => (by cases h))
  | r + 1, hr => by
    have ih := KUof_0 n m0 t hx r (by omega)
    have gp : GB n (paF t n 0 r) := GB_pa (by decide) r
    have kl := kl_all (l := l) (g := g) (7 * r + 5) n (5 - r) 0 m0 t (paF t n 0 r) hx gp ih
    have e5 : 5 - (r + 1) + 1 = 5 - r := by omega
    exact unit_0 (7 * r + 7) (7 * r + 7) (7 * r + 5 + 7) n (5 - (r + 1)) m0 t true (paF t n 0 r) (leF t n (paF t n 0 r) 5) hx (by omega) ⟨fun _ => by omega, fun _ => rfl⟩ (blt_ok (by omega)) (blt_ok (by omega)) (fun _ => gp) (fun _ => GB_le gp 5 (Nat.le_refl _)) (fun _ => by rw [e5]; exact ih) (fun _ => by rw [e5]; exact kl)
theorem KEall_0 (n : Nat) (m0 : Mem) (t : Nat → Int32) (hx : RX m0 t n 0) : KM l g mX12_either 47 n 0 m0 (leF t n (paF t n 0 5) 5) := kl_all 40 n 0 0 m0 t _ hx (GB_pa (by decide) 5) (KUof_0 n m0 t hx 5 (Nat.le_refl _))
abbrev rx0_0 (m : Mem) (n : Nat) : Mem := up2 (up2 (up2 (up2 (up2 (up2 (up2 m 68 5 (nI 210)) 68 6 0) 68 7 (nI n)) 68 8 (-1)) 68 9 0) 68 13 0) 68 10 0
theorem RX0_0 (m : Mem) (t : Nat → Int32) (n : Nat) (ht : ∀ j, j < 50 → m 69 (210 + j) = t j) (hn : n ≤ 50) : RX (rx0_0 m n) t n 0 := ⟨by unfold rx0_0; rw [up2_k (by decide), up2_k (by decide), up2_k (by decide), up2_k (by decide), up2_k (by decide), up2_k (by decide), up2_s], by unfold rx0_0; rw [up2_k (by decide), up2_k (by decide), up2_k (by decide), up2_k (by decide), up2_s], up2_s, fun j hj => by unfold rx0_0; rw [up2_r (by decide), up2_r (by decide), up2_r (by decide), up2_r (by decide), up2_r (by decide), up2_r (by decide), up2_r (by decide)]; exact ht j hj, hn⟩
theorem RR0_0 (m : Mem) (n : Nat) : RR 0 (rx0_0 m n) (rx0_0 m n) (0, [], true) := ⟨by unfold rx0_0; rw [up2_k (by decide), up2_k (by decide), up2_k (by decide), up2_k (by decide), up2_k (by decide), up2_s]; rfl, by unfold rx0_0; rw [up2_k (by decide), up2_k (by decide), up2_k (by decide), up2_s]; rfl, by unfold rx0_0; rw [up2_k (by decide), up2_k (by decide), up2_s]; rfl, fun _ => ⟨by unfold rx0_0; rw [up2_k (by decide), up2_s]; rfl, fun j hj => absurd hj (Nat.not_lt_zero j)⟩, fun b _ _ => rfl, fun k _ _ _ _ => rfl⟩
theorem KUof_1 (n : Nat) (m0 : Mem) (t : Nat → Int32) (hx : RX m0 t n 1) : ∀ r, r ≤ 5 → KM l g mX12_unit (7 * r + 7) n (5 - r) m0 (paF t n 1 r)
  | 0, _ => unit_1 0 0 0 n 5 m0 t false id id hx (Nat.le_refl _) ⟨fun h => (by cases h), fun h => absurd h (by decide)⟩ rfl rfl (fun h => (by cases h)) (fun h => (by cases h)) (fun h => (by cases h)) (fun h => (by cases h))
  | r + 1, hr => by
    have ih := KUof_1 n m0 t hx r (by omega)
    have gp : GB n (paF t n 1 r) := GB_pa (by decide) r
    have kl := kl_all (l := l) (g := g) (7 * r + 5) n (5 - r) 1 m0 t (paF t n 1 r) hx gp ih
    have e5 : 5 - (r + 1) + 1 = 5 - r := by omega
    exact unit_1 (7 * r + 7) (7 * r + 7) (7 * r + 5 + 7) n (5 - (r + 1)) m0 t true (paF t n 1 r) (leF t n (paF t n 1 r) 5) hx (by omega) ⟨fun _ => by omega, fun _ => rfl⟩ (blt_ok (by omega)) (blt_ok (by omega)) (fun _ => gp) (fun _ => GB_le gp 5 (Nat.le_refl _)) (fun _ => by rw [e5]; exact ih) (fun _ => by rw [e5]; exact kl)
theorem KEall_1 (n : Nat) (m0 : Mem) (t : Nat → Int32) (hx : RX m0 t n 1) : KM l g mX12_either 47 n 0 m0 (leF t n (paF t n 1 5) 5) := kl_all 40 n 0 1 m0 t _ hx (GB_pa (by decide) 5) (KUof_1 n m0 t hx 5 (Nat.le_refl _))
abbrev rx0_1 (m : Mem) (n : Nat) : Mem := up2 (up2 (up2 (up2 (up2 (up2 (up2 m 68 5 (nI 210)) 68 6 0) 68 7 (nI n)) 68 8 (-1)) 68 9 0) 68 13 0) 68 10 1
theorem RX0_1 (m : Mem) (t : Nat → Int32) (n : Nat) (ht : ∀ j, j < 50 → m 69 (210 + j) = t j) (hn : n ≤ 50) : RX (rx0_1 m n) t n 1 := ⟨by unfold rx0_1; rw [up2_k (by decide), up2_k (by decide), up2_k (by decide), up2_k (by decide), up2_k (by decide), up2_k (by decide), up2_s], by unfold rx0_1; rw [up2_k (by decide), up2_k (by decide), up2_k (by decide), up2_k (by decide), up2_s], up2_s, fun j hj => by unfold rx0_1; rw [up2_r (by decide), up2_r (by decide), up2_r (by decide), up2_r (by decide), up2_r (by decide), up2_r (by decide), up2_r (by decide)]; exact ht j hj, hn⟩
theorem RR0_1 (m : Mem) (n : Nat) : RR 0 (rx0_1 m n) (rx0_1 m n) (0, [], true) := ⟨by unfold rx0_1; rw [up2_k (by decide), up2_k (by decide), up2_k (by decide), up2_k (by decide), up2_k (by decide), up2_s]; rfl, by unfold rx0_1; rw [up2_k (by decide), up2_k (by decide), up2_k (by decide), up2_s]; rfl, by unfold rx0_1; rw [up2_k (by decide), up2_k (by decide), up2_s]; rfl, fun _ => ⟨by unfold rx0_1; rw [up2_k (by decide), up2_s]; rfl, fun j hj => absurd hj (Nat.not_lt_zero j)⟩, fun b _ _ => rfl, fun k _ _ _ _ => rfl⟩
end O37
