/-- all of the set x's members under n keep P -/
def aD (P : Nat → Prop) [DecidablePred P] (x : Int32) : Nat → Bool
  | 0 => true
  | n + 1 => aD P x n && (decide (bitf x n = 0) || decide (P n))
theorem aD_t1 {P : Nat → Prop} [DecidablePred P] {x : Int32} {i : Nat} (a : aD P x i = true) (b : bitf x i = 0) : aD P x (i + 1) = true := by
  show (aD P x i && (decide (bitf x i = 0) || decide (P i))) = true
  rw [a, decide_eq_true b]; rfl
theorem aD_t2 {P : Nat → Prop} [DecidablePred P] {x : Int32} {i : Nat} (a : aD P x i = true) (b : P i) : aD P x (i + 1) = true := by
  show (aD P x i && (decide (bitf x i = 0) || decide (P i))) = true
  rw [a, decide_eq_true b, Bool.or_true]; rfl
theorem aD_f1 {P : Nat → Prop} [DecidablePred P] {x : Int32} {i : Nat} (a : ¬ aD P x i = true) : ¬ aD P x (i + 1) = true := by
  show ¬ (aD P x i && (decide (bitf x i = 0) || decide (P i))) = true
  rw [Bool.eq_false_iff.mpr a, Bool.false_and]; decide
theorem aD_f2 {P : Nat → Prop} [DecidablePred P] {x : Int32} {i : Nat} (a : bitf x i ≠ 0) (b : ¬ P i) : ¬ aD P x (i + 1) = true := by
  show ¬ (aD P x i && (decide (bitf x i = 0) || decide (P i))) = true
  rw [decide_eq_false a, decide_eq_false b, Bool.or_false, Bool.and_false]; decide
theorem aD_iff {P : Nat → Prop} [DecidablePred P] {x : Int32} : ∀ {n : Nat}, n ≤ 32 → (aD P x n = true ↔ ∀ h, h < n → bt x h = true → P h)
  | 0, _ => ⟨fun _ h hh => absurd hh (Nat.not_lt_zero h), fun _ => rfl⟩
  | n + 1, hn => by
    have ih := aD_iff (P := P) (x := x) (n := n) (by omega)
    constructor
    · intro q h hh hb
      by_cases e : h = n
      · subst e
        by_cases z : P h
        · exact z
        · exact absurd q (aD_f2 (fun c => by rw [(bitf_0 (by omega)).mp c] at hb; cases hb) z)
      · by_cases z : aD P x n = true
        · exact ih.mp z h (by omega) hb
        · exact absurd q (aD_f1 z)
    · intro q
      have z := ih.mpr (fun h hh hb => q h (by omega) hb)
      cases hb : bt x n with
      | false => exact aD_t1 z ((bitf_0 (by omega)).mpr hb)
      | true => exact aD_t2 z (q n (by omega) hb)
section O11
variable {l : Launch} {g : Gv}
set_option maxRecDepth 100000 in
theorem lp_areDust {Q : Option Value → Mem → Prop} (m : Mem) (x : Int32) (w : WF (m 69)) (hq : Q (some (.int (bz (aD (fun h => hf (m 69) h 3 = 0) x (hn (m 69)) = true)))) m) : ∀ (k i : Nat), i + k = hn (m 69) → J l g 2 mX12_areDust 4 [some (rf g 68), some (.int x), some (.int (bz (aD (fun h => hf (m 69) h 3 = 0) x i = true))), some (.int (nI i))] [] m Q := by
  have wn := w.n
  intro k
  induction k with
  | zero =>
    intro i e
    have e : i = hn (m 69) := by omega
    refine j_iload3 5 dX12_areDust_4 rfl ?_
    refine j_aload0 6 dX12_areDust_5 rfl ?_
    refine j_getR 9 dX12_areDust_6 rfl fl_X12_7 rfl rfl ?_
    refine j_iconst 10 (v := 0) dX12_areDust_9 rfl rfl ?_
    refine j_iald 11 0 rfl (by first | assumption | decide | omega) dX12_areDust_10 rfl rfl ?_
    refine j_cmp_ge 46 14 dX12_areDust_11 rfl rfl (fun h11 => ?_) (fun h11 => absurd (by rw [wn.2, e]; exact Int32.le_refl _) h11)
    refine j_iload2 47 dX12_areDust_46 rfl ?_
    refine j_zret (by first | exact bz_01 | exact Or.inl rfl | exact Or.inr rfl | assumption) dX12_areDust_47 rfl ?_
    (rw [e]; exact hq)
  | succ k ih =>
    intro i e
    have e2 : nI i + 1 = nI (i + 1) := nI_1 i
    refine j_iload3 5 dX12_areDust_4 rfl ?_
    refine j_aload0 6 dX12_areDust_5 rfl ?_
    refine j_getR 9 dX12_areDust_6 rfl fl_X12_7 rfl rfl ?_
    refine j_iconst 10 (v := 0) dX12_areDust_9 rfl rfl ?_
    refine j_iald 11 0 rfl (by first | assumption | decide | omega) dX12_areDust_10 rfl rfl ?_
    refine j_cmp_ge 46 14 dX12_areDust_11 rfl rfl (fun h11 => absurd h11 (by rw [wn.2]; exact nI_ge (by omega) (by omega))) (fun h11 => ?_)
    refine j_iload2 15 dX12_areDust_14 rfl ?_
    refine j_if_eq_bz 38 18 dX12_areDust_15 rfl rfl (fun h15 => ?_) (fun h15 => ?_)
    · refine j_iconst 39 (v := 0) dX12_areDust_38 rfl rfl ?_
      refine j_istore2 40 dX12_areDust_39 rfl rfl rfl ?_
      refine j_iinc3 43 (1) dX12_areDust_40 rfl rfl rfl rfl ?_
      refine j_goto 4 dX12_areDust_43 rfl ?_
      rw [e2]
      have ih1 := ih (i + 1) (by omega)
      first | (rw [bz_t (aD_t1 (P := fun h => hf (m 69) h 3 = 0) h15 h23)] at ih1; exact ih1) | (rw [bz_t (aD_t2 (P := fun h => hf (m 69) h 3 = 0) h15 h31)] at ih1; exact ih1) | (rw [bz_f (aD_f1 (P := fun h => hf (m 69) h 3 = 0) h15)] at ih1; exact ih1) | (rw [bz_f (aD_f2 (P := fun h => hf (m 69) h 3 = 0) h23 h31)] at ih1; exact ih1)
    · refine j_iload1 19 dX12_areDust_18 rfl ?_
      refine j_iload3 20 dX12_areDust_19 rfl ?_
      refine j_ishr 21 dX12_areDust_20 rfl ?_
      refine j_iconst 22 (v := 1) dX12_areDust_21 rfl rfl ?_
      refine j_iand 23 dX12_areDust_22 rfl ?_
      refine j_if_eq 34 26 dX12_areDust_23 rfl rfl (fun h23 => ?_) (fun h23 => ?_)
      · refine j_iconst 35 (v := 1) dX12_areDust_34 rfl rfl ?_
        refine j_goto 39 dX12_areDust_35 rfl ?_
        refine j_istore2 40 dX12_areDust_39 rfl rfl rfl ?_
        refine j_iinc3 43 (1) dX12_areDust_40 rfl rfl rfl rfl ?_
        refine j_goto 4 dX12_areDust_43 rfl ?_
        rw [e2]
        have ih1 := ih (i + 1) (by omega)
        first | (rw [bz_t (aD_t1 (P := fun h => hf (m 69) h 3 = 0) h15 h23)] at ih1; exact ih1) | (rw [bz_t (aD_t2 (P := fun h => hf (m 69) h 3 = 0) h15 h31)] at ih1; exact ih1) | (rw [bz_f (aD_f1 (P := fun h => hf (m 69) h 3 = 0) h15)] at ih1; exact ih1) | (rw [bz_f (aD_f2 (P := fun h => hf (m 69) h 3 = 0) h23 h31)] at ih1; exact ih1)
      · refine j_aload0 27 dX12_areDust_26 rfl ?_
        refine j_iload3 28 dX12_areDust_27 rfl ?_
        refine j_vi1f 31 dX12_areDust_28 rfl rfl cl_X12_149 rfl rfl (c_misDust m i (by omega)) ?_
        refine j_if_eq_bz 38 34 dX12_areDust_31 rfl rfl (fun h31 => ?_) (fun h31 => ?_)
        · refine j_iconst 39 (v := 0) dX12_areDust_38 rfl rfl ?_
          refine j_istore2 40 dX12_areDust_39 rfl rfl rfl ?_
          refine j_iinc3 43 (1) dX12_areDust_40 rfl rfl rfl rfl ?_
          refine j_goto 4 dX12_areDust_43 rfl ?_
          rw [e2]
          have ih1 := ih (i + 1) (by omega)
          first | (rw [bz_t (aD_t1 (P := fun h => hf (m 69) h 3 = 0) h15 h23)] at ih1; exact ih1) | (rw [bz_t (aD_t2 (P := fun h => hf (m 69) h 3 = 0) h15 h31)] at ih1; exact ih1) | (rw [bz_f (aD_f1 (P := fun h => hf (m 69) h 3 = 0) h15)] at ih1; exact ih1) | (rw [bz_f (aD_f2 (P := fun h => hf (m 69) h 3 = 0) h23 h31)] at ih1; exact ih1)
        · refine j_iconst 35 (v := 1) dX12_areDust_34 rfl rfl ?_
          refine j_goto 39 dX12_areDust_35 rfl ?_
          refine j_istore2 40 dX12_areDust_39 rfl rfl rfl ?_
          refine j_iinc3 43 (1) dX12_areDust_40 rfl rfl rfl rfl ?_
          refine j_goto 4 dX12_areDust_43 rfl ?_
          rw [e2]
          have ih1 := ih (i + 1) (by omega)
          first | (rw [bz_t (aD_t1 (P := fun h => hf (m 69) h 3 = 0) h15 h23)] at ih1; exact ih1) | (rw [bz_t (aD_t2 (P := fun h => hf (m 69) h 3 = 0) h15 h31)] at ih1; exact ih1) | (rw [bz_f (aD_f1 (P := fun h => hf (m 69) h 3 = 0) h15)] at ih1; exact ih1) | (rw [bz_f (aD_f2 (P := fun h => hf (m 69) h 3 = 0) h23 h31)] at ih1; exact ih1)
set_option maxRecDepth 100000 in
theorem c_areDust (m : Mem) (x : Nat) (w : WF (m 69)) (hx : x < 2 ^ hn (m 69)) : JM l g 2 mX12_areDust [rf g 68, .int (nI x)] m (RF (some (.int (bz (nI x &&& (setF (fun h => hf (m 69) h 3 = 0) (hn (m 69)) ^^^ -1) = 0)))) m) := by
  refine JM_of (ls := [some (rf g 68), some (.int (nI x)), none, none]) pn_X12 rfl rfl ?_
  have wn := w.n
  have K := lp_areDust (l := l) (g := g) (Q := RF (some (.int (bz (nI x &&& (setF (fun h => hf (m 69) h 3 = 0) (hn (m 69)) ^^^ -1) = 0)))) m) m (nI x) w ⟨by rw [bz_congr ((aD_iff (by omega)).trans (sub_set (by omega) hx).symm)], rfl⟩ (hn (m 69)) 0 (Nat.zero_add _)
  refine j_iconst 1 (v := 1) dX12_areDust_0 rfl rfl ?_
  refine j_istore2 2 dX12_areDust_1 rfl rfl rfl ?_
  refine j_iconst 3 (v := 0) dX12_areDust_2 rfl rfl ?_
  refine j_istore3 4 dX12_areDust_3 rfl rfl rfl ?_
  exact K
set_option maxRecDepth 100000 in
theorem lq_late {Q : Option Value → Mem → Prop} (x n0 : Nat) (hx : x < 2 ^ n0) (d0 : Nat → Int32) (w0 : WF d0) (m0 : Mem) (N : Nat) (hN : N ≤ 61) (hno : ∀ j, j < N → ¬ (fun e : Nat → Int32 => nI x &&& (setF (fun h => hf e h 3 = 0) (hn e) ^^^ -1) = 0) (itD j d0))  (kk : ∀ m', TR 18 m' (itD N d0) → LR m' 39 (itD N d0) 0 → LR m' 43 (itD N d0) 1 → Sm thS m0 m' → ∀ o : Option Value, J l g 6 mX11_late 21 [some (rf g 0), some (.int (nI x)), some (.int (nI N))] [] m' Q) : ∀ (k n : Nat) (m : Mem) (o : Option Value), n + k = N → TR 18 m (itD n d0) → LR m 39 (itD n d0) 0 → LR m 43 (itD n d0) 1 → Sm thS m0 m → J l g 6 mX11_late 21 [some (rf g 0), some (.int (nI x)), some (.int (nI n))] [] m Q := by
  intro k
  induction k with
  | zero =>
    intro n m o e hT hl0 hl1 hs
    have e : n = N := by omega
    subst e
    exact kk m hT hl0 hl1 hs o
  | succ k ih =>
    intro n m o e hT hl0 hl1 hs
    have e2 : nI n + 1 = nI (n + 1) := nI_1 n
    have w := itD_wf n w0
    have hp := hno n (by omega)

    refine j_iload2 22 dX11_late_21 rfl ?_
    refine j_bipush 24 (v := 60) dX11_late_22 rfl rfl ?_
    refine j_cmp_gt 60 27 dX11_late_24 rfl rfl (fun h24 => absurd h24 (nI_nlt (a := 60) (b := n) (by omega) (by decide))) (fun h24 => ?_)
    refine j_iload1 28 dX11_late_27 rfl ?_
    refine j_aload0 29 dX11_late_28 rfl ?_
    refine j_getR 32 dX11_late_29 rfl fl_X11_39 rfl rfl ?_
    refine j_vi0f 35 dX11_late_32 rfl rfl cl_X11_244 rfl rfl (c_dust_18 m (itD n d0) w hT) ?_
    refine j_iconst 36 (v := -1) dX11_late_35 rfl rfl ?_
    refine j_ixor 37 dX11_late_36 rfl ?_
    refine j_iand 38 dX11_late_37 rfl ?_
    refine j_if_ne 43 41 dX11_late_38 rfl rfl (fun h38 => ?_) (fun h38 => absurd h38 hp)
    refine j_aload0 44 dX11_late_43 rfl ?_
    refine j_getR 47 dX11_late_44 rfl fl_X11_39 rfl rfl ?_
    refine j_aload0 48 dX11_late_47 rfl ?_
    refine j_getR 51 dX11_late_48 rfl fl_X11_48 rfl rfl ?_
    refine j_vi1w 54 dX11_late_51 rfl rfl cl_X11_213 rfl rfl (c_goDay_18 m (itD n d0) w hT hl0 hl1) (fun m51 q51 => ?_)
    refine j_iinc2 57 (1) dX11_late_54 rfl rfl rfl rfl ?_
    refine j_goto 21 dX11_late_57 rfl ?_
    rw [e2]
    have ek : ∀ k, 88 ≤ k → dayF (itD n d0) k = itD n d0 k := fun k hk => dayF_k w (Or.inr hk) (by omega) (by omega)
    exact ih (n + 1) m51 none (by omega) (by rw [itD_s]; exact q51.1) (by rw [itD_s]; exact LR_congr (by decide) hl0 (q51.2 39 (by decide)) (q51.2 40 (by decide)) ek) (by rw [itD_s]; exact LR_congr (by decide) hl1 (q51.2 43 (by decide)) (q51.2 44 (by decide)) ek) (hs.trans (q51.2.mono (by decide)))
set_option maxRecDepth 100000 in
theorem lm_late {Q : Option Value → Mem → Prop} (x n0 : Nat) (hx : x < 2 ^ n0) (d0 : Nat → Int32) (w0 : WF d0) (hd0 : nb (d0 1) 10000) (m0 : Mem) (N : Nat) (hN : N ≤ 60) (hno : ∀ j, j < N → ¬ (fun e : Nat → Int32 => nI x &&& (setF (fun h => hf e h 3 = 0) (hn e) ^^^ -1) = 0) (itD j d0)) (hn0 : hn d0 = n0) (kk : ∀ m', m' 69 = itD N d0 → Sm [69, 73, 75] m0 m' → J l g 6 mX12_late 32 [some (rf g 68), some (.int (nI x)), some (.int (nI N)), none] [] m' Q) : ∀ (k n : Nat) (m : Mem), n + k = N → m 69 = itD n d0 → Sm [69, 73, 75] m0 m → J l g 6 mX12_late 32 [some (rf g 68), some (.int (nI x)), some (.int (nI n)), none] [] m Q := by
  intro k
  induction k with
  | zero =>
    intro n m e hm hs
    have e : n = N := by omega
    subst e
    exact kk m hm hs
  | succ k ih =>
    intro n m e hm hs
    have e2 : nI n + 1 = nI (n + 1) := nI_1 n
    have w : WF (m 69) := by rw [hm]; exact itD_wf n w0
    have hd : nb (m 69 1) 19999 := by rw [hm]; exact nb_up (itnb n w0 hd0) (by omega)
    have hp := hno n (by omega)
    rw [← hm] at hp
    have hx1 : x < 2 ^ hn (m 69) := by rw [hm, itn n w0, hn0]; exact hx
    refine j_iload2 33 dX12_late_32 rfl ?_
    refine j_bipush 35 (v := 60) dX12_late_33 rfl rfl ?_
    refine j_cmp_ge 56 38 dX12_late_35 rfl rfl (fun h35 => absurd h35 (show ¬ (60 : Int32) ≤ nI n from nI_ge (a := n) (b := 60) (by omega) (by decide))) (fun h35 => ?_)
    refine j_aload0 39 dX12_late_38 rfl ?_
    refine j_iload1 40 dX12_late_39 rfl ?_
    refine j_vi1f 43 dX12_late_40 rfl rfl cl_X12_249 rfl rfl (c_areDust m x w hx1) ?_
    refine j_if_ne_bz 56 46 dX12_late_43 rfl rfl (fun h43 => absurd h43 hp) (fun h43 => ?_)
    refine j_aload0 47 dX12_late_46 rfl ?_
    refine j_vi0w 50 dX12_late_47 rfl rfl cl_X12_171 rfl rfl (c_mday m w hd) (fun m47 q47 => ?_)
    refine j_iinc2 53 (1) dX12_late_50 rfl rfl rfl rfl ?_
    refine j_goto 32 dX12_late_53 rfl ?_
    rw [e2]
    exact ih (n + 1) m47 (by omega) (by rw [itD_s, q47.1, hm]) (hs.trans q47.2)
set_option maxRecDepth 100000 in
theorem oc_late (x n0 : Nat) (hx : x < 2 ^ n0) (d : Nat → Int32) (w0 : WF d) (m0 m : Mem) (N : Nat) (hN : N ≤ 60) (hyes : (fun e : Nat → Int32 => nI x &&& (setF (fun h => hf e h 3 = 0) (hn e) ^^^ -1) = 0) (itD N d))  (hT : TR 18 m (itD N d)) (hs : Sm thS m0 m) (o : Option Value) : J l g 6 mX11_late 21 [some (rf g 0), some (.int (nI x)), some (.int (nI N))] [] m (RS (some (.int (nI N))) (Sm thS m0)) := by
  have w := itD_wf N w0
  refine j_iload2 22 dX11_late_21 rfl ?_
  refine j_bipush 24 (v := 60) dX11_late_22 rfl rfl ?_
  refine j_cmp_gt 60 27 dX11_late_24 rfl rfl (fun h24 => absurd h24 (nI_nlt (a := 60) (b := N) (by omega) (by decide))) (fun h24 => ?_)
  refine j_iload1 28 dX11_late_27 rfl ?_
  refine j_aload0 29 dX11_late_28 rfl ?_
  refine j_getR 32 dX11_late_29 rfl fl_X11_39 rfl rfl ?_
  refine j_vi0f 35 dX11_late_32 rfl rfl cl_X11_244 rfl rfl (c_dust_18 m (itD N d) w hT) ?_
  refine j_iconst 36 (v := -1) dX11_late_35 rfl rfl ?_
  refine j_ixor 37 dX11_late_36 rfl ?_
  refine j_iand 38 dX11_late_37 rfl ?_
  refine j_if_ne 43 41 dX11_late_38 rfl rfl (fun h38 => absurd h38 (fun q => q hyes)) (fun h38 => ?_)
  refine j_iload2 42 dX11_late_41 rfl ?_
  refine j_iret dX11_late_42 rfl ?_
  exact ⟨rfl, hs⟩
set_option maxRecDepth 100000 in
theorem nc_late (x n0 : Nat) (hx : x < 2 ^ n0) (m0 m : Mem) (hs : Sm thS m0 m) (o : Option Value) : J l g 6 mX11_late 21 [some (rf g 0), some (.int (nI x)), some (.int (nI 61))] [] m (RS (some (.int (-1000000002))) (fun m2 => ∃ m', Sm thS m0 m' ∧ m2 = errC 2 m')) := by
  refine j_iload2 22 dX11_late_21 rfl ?_
  refine j_bipush 24 (v := 60) dX11_late_22 rfl rfl ?_
  refine j_cmp_gt 60 27 dX11_late_24 rfl rfl (fun h24 => ?_) (fun h24 => absurd (by decide) h24)
  refine j_aload0 61 dX11_late_60 rfl ?_
  refine j_ldc 63 dX11_late_61 rfl kc_X11_223 ?_
  refine j_vi1f 66 dX11_late_63 rfl rfl cl_X11_82 rfl rfl (c_err2 m) ?_
  refine j_iret dX11_late_66 rfl ?_
  exact ⟨rfl, m, hs, rfl⟩
set_option maxRecDepth 100000 in
theorem o_late (m : Mem) (d : Nat → Int32) (w : WF d) (hT : TR 9 m d) (hP : PR 36 m d) (x n0 : Nat) (hx : x < 2 ^ n0) (h1 : 0 ≤ nI x ∧ nI x < (1 : Int32) <<< (m 9 9 &&& 31)) (N : Nat) (hN : N ≤ 60) (hno : ∀ j, j < N → ¬ (fun e : Nat → Int32 => nI x &&& (setF (fun h => hf e h 3 = 0) (hn e) ^^^ -1) = 0) (itD j d)) (hyes : (fun e : Nat → Int32 => nI x &&& (setF (fun h => hf e h 3 = 0) (hn e) ^^^ -1) = 0) (itD N d)) : JM l g 6 mX11_late [rf g 0, .int (nI x)] m (RS (some (.int (nI N))) (Sm thS m)) := by
  refine JM_of (ls := [some (rf g 0), some (.int (nI x)), none]) pn_X11 rfl rfl ?_
  refine j_aload0 1 dX11_late_0 rfl ?_
  refine j_iload1 2 dX11_late_1 rfl ?_
  refine j_vi1f 5 dX11_late_2 rfl rfl cl_X11_224 rfl rfl (c_isSet m _) ?_
  refine j_if_ne_bz 15 8 dX11_late_5 rfl rfl (fun h5 => ?_) (fun h5 => absurd h1 h5)
  refine j_aload0 16 dX11_late_15 rfl ?_
  refine j_vi0w 19 dX11_late_16 rfl rfl cl_X11_217 rfl rfl (c_think m) (fun m16 q16 => ?_)
  refine j_iconst 20 (v := 0) dX11_late_19 rfl rfl ?_
  refine j_istore2 21 dX11_late_20 rfl rfl rfl ?_
  obtain ⟨l0, l1⟩ := LR2 hP (q16.2 39 (by decide)) (q16.2 40 (by decide)) (q16.2 43 (by decide)) (q16.2 44 (by decide))
  exact lq_late x n0 hx d w m N (by omega) hno (fun m1 hT1 hl0 hl1 hs1 o => oc_late x n0 hx d w m m1 N hN hyes  hT1 hs1 o) N 0 m16 none (Nat.zero_add _) (q16.1 d hT) l0 l1 (q16.2.mono (by decide))
set_option maxRecDepth 100000 in
theorem n_late (m : Mem) (d : Nat → Int32) (w : WF d) (hT : TR 9 m d) (hP : PR 36 m d) (x n0 : Nat) (hx : x < 2 ^ n0) (h1 : 0 ≤ nI x ∧ nI x < (1 : Int32) <<< (m 9 9 &&& 31)) (hno : ∀ j, j < 61 → ¬ (fun e : Nat → Int32 => nI x &&& (setF (fun h => hf e h 3 = 0) (hn e) ^^^ -1) = 0) (itD j d)) : JM l g 6 mX11_late [rf g 0, .int (nI x)] m (RS (some (.int (-1000000002))) (fun m2 => ∃ m', Sm thS m m' ∧ m2 = errC 2 m')) := by
  refine JM_of (ls := [some (rf g 0), some (.int (nI x)), none]) pn_X11 rfl rfl ?_
  refine j_aload0 1 dX11_late_0 rfl ?_
  refine j_iload1 2 dX11_late_1 rfl ?_
  refine j_vi1f 5 dX11_late_2 rfl rfl cl_X11_224 rfl rfl (c_isSet m _) ?_
  refine j_if_ne_bz 15 8 dX11_late_5 rfl rfl (fun h5 => ?_) (fun h5 => absurd h1 h5)
  refine j_aload0 16 dX11_late_15 rfl ?_
  refine j_vi0w 19 dX11_late_16 rfl rfl cl_X11_217 rfl rfl (c_think m) (fun m16 q16 => ?_)
  refine j_iconst 20 (v := 0) dX11_late_19 rfl rfl ?_
  refine j_istore2 21 dX11_late_20 rfl rfl rfl ?_
  obtain ⟨l0, l1⟩ := LR2 hP (q16.2 39 (by decide)) (q16.2 40 (by decide)) (q16.2 43 (by decide)) (q16.2 44 (by decide))
  exact lq_late x n0 hx d w m 61 (by omega) hno (fun m1 hT1 hl0 hl1 hs1 o => nc_late x n0 hx m m1 hs1 o) 61 0 m16 none (Nat.zero_add _) (q16.1 d hT) l0 l1 (q16.2.mono (by decide))
set_option maxRecDepth 100000 in
theorem om_late (x n0 : Nat) (hx : x < 2 ^ n0) (m0 m : Mem) (w0 : WF (m0 69)) (hn0 : hn (m0 69) = n0) (N : Nat) (hN : N ≤ 60) (hyes : (fun e : Nat → Int32 => nI x &&& (setF (fun h => hf e h 3 = 0) (hn e) ^^^ -1) = 0) (itD N (m0 69)))  (hm : m 69 = itD N (m0 69)) (hs : Sm [69, 73, 75] (upR m0 71 (rst (m0 69) (m0 71))) m) : J l g 6 mX12_late 32 [some (rf g 68), some (.int (nI x)), some (.int (nI N)), none] [] m (RS (some (.int (nI N))) (MK m0)) := by
  have w : WF (m 69) := by rw [hm]; exact itD_wf N w0
  have hy : (fun e : Nat → Int32 => nI x &&& (setF (fun h => hf e h 3 = 0) (hn e) ^^^ -1) = 0) (m 69) := by rw [hm]; exact hyes
  have hmk : MK m0 (upR m 69 (rst (m 71) (m 69))) := ⟨by rw [upR_s, hs 71 (by decide), upR_s, hm, rst_it w0, rst_rst], ((Sm.rf.row (by decide)).trans (hs.mono (by decide))).row (by decide)⟩
  refine j_iload2 33 dX12_late_32 rfl ?_
  refine j_bipush 35 (v := 60) dX12_late_33 rfl rfl ?_
  skip
  refine j_cmp_ge 56 38 dX12_late_35 rfl rfl (fun h35 => ?_) (fun h35 => ?_)
  · refine j_aload0 57 dX12_late_56 rfl ?_
    refine j_iload1 58 dX12_late_57 rfl ?_
    refine j_vi1f 61 dX12_late_58 rfl rfl cl_X12_249 rfl rfl (c_areDust m x w (by rw [hm, itn N w0, hn0]; exact hx)) ?_
    refine j_istore3 62 dX12_late_61 rfl rfl rfl ?_
    refine j_aload0 63 dX12_late_62 rfl ?_
    refine j_vi0v 66 dX12_late_63 rfl rfl cl_X12_223 rfl rfl (c_putBack _) ?_
    refine j_iload3 67 dX12_late_66 rfl ?_
    refine j_if_eq_bz 74 70 dX12_late_67 rfl rfl (fun h67 => absurd hy h67) (fun h67 => ?_)
    refine j_iload2 71 dX12_late_70 rfl ?_
    refine j_goto 79 dX12_late_71 rfl ?_
    refine j_iret dX12_late_79 rfl ?_
    exact ⟨rfl, hmk⟩
  · refine j_aload0 39 dX12_late_38 rfl ?_
    refine j_iload1 40 dX12_late_39 rfl ?_
    refine j_vi1f 43 dX12_late_40 rfl rfl cl_X12_249 rfl rfl (c_areDust m x w (by rw [hm, itn N w0, hn0]; exact hx)) ?_
    refine j_if_ne_bz 56 46 dX12_late_43 rfl rfl (fun h43 => ?_) (fun h43 => absurd hy h43)
    refine j_aload0 57 dX12_late_56 rfl ?_
    refine j_iload1 58 dX12_late_57 rfl ?_
    refine j_vi1f 61 dX12_late_58 rfl rfl cl_X12_249 rfl rfl (c_areDust m x w (by rw [hm, itn N w0, hn0]; exact hx)) ?_
    refine j_istore3 62 dX12_late_61 rfl rfl rfl ?_
    refine j_aload0 63 dX12_late_62 rfl ?_
    refine j_vi0v 66 dX12_late_63 rfl rfl cl_X12_223 rfl rfl (c_putBack _) ?_
    refine j_iload3 67 dX12_late_66 rfl ?_
    refine j_if_eq_bz 74 70 dX12_late_67 rfl rfl (fun h67 => absurd hy h67) (fun h67 => ?_)
    refine j_iload2 71 dX12_late_70 rfl ?_
    refine j_goto 79 dX12_late_71 rfl ?_
    refine j_iret dX12_late_79 rfl ?_
    exact ⟨rfl, hmk⟩
set_option maxRecDepth 100000 in
theorem nm_late (x n0 : Nat) (hx : x < 2 ^ n0) (m0 m : Mem) (w0 : WF (m0 69)) (hn0 : hn (m0 69) = n0) (hno : ∀ j, j < 61 → ¬ (fun e : Nat → Int32 => nI x &&& (setF (fun h => hf e h 3 = 0) (hn e) ^^^ -1) = 0) (itD j (m0 69))) (hm : m 69 = itD 60 (m0 69)) (hs : Sm [69, 73, 75] (upR m0 71 (rst (m0 69) (m0 71))) m) : J l g 6 mX12_late 32 [some (rf g 68), some (.int (nI x)), some (.int (nI 60)), none] [] m (RS (some (.int (-1000000002))) (fun m3 => ∃ m2, MK m0 m2 ∧ m3 = errM 2 m2)) := by
  have w : WF (m 69) := by rw [hm]; exact itD_wf 60 w0
  have hy : ¬ (fun e : Nat → Int32 => nI x &&& (setF (fun h => hf e h 3 = 0) (hn e) ^^^ -1) = 0) (m 69) := by rw [hm]; exact hno 60 (by decide)
  have hmk : MK m0 (upR m 69 (rst (m 71) (m 69))) := ⟨by rw [upR_s, hs 71 (by decide), upR_s, hm, rst_it w0, rst_rst], ((Sm.rf.row (by decide)).trans (hs.mono (by decide))).row (by decide)⟩
  refine j_iload2 33 dX12_late_32 rfl ?_
  refine j_bipush 35 (v := 60) dX12_late_33 rfl rfl ?_
  refine j_cmp_ge 56 38 dX12_late_35 rfl rfl (fun h35 => ?_) (fun h35 => absurd (by decide) h35)
  refine j_aload0 57 dX12_late_56 rfl ?_
  refine j_iload1 58 dX12_late_57 rfl ?_
  refine j_vi1f 61 dX12_late_58 rfl rfl cl_X12_249 rfl rfl (c_areDust m x w (by rw [hm, itn 60 w0, hn0]; exact hx)) ?_
  refine j_istore3 62 dX12_late_61 rfl rfl rfl ?_
  refine j_aload0 63 dX12_late_62 rfl ?_
  refine j_vi0v 66 dX12_late_63 rfl rfl cl_X12_223 rfl rfl (c_putBack _) ?_
  refine j_iload3 67 dX12_late_66 rfl ?_
  refine j_if_eq_bz 74 70 dX12_late_67 rfl rfl (fun h67 => ?_) (fun h67 => absurd h67 hy)
  refine j_aload0 75 dX12_late_74 rfl ?_
  refine j_iconst 76 (v := 2) dX12_late_75 rfl rfl ?_
  refine j_vi1f 79 dX12_late_76 rfl rfl cl_X12_126 rfl rfl (c_finds2 _) ?_
  refine j_iret dX12_late_79 rfl ?_
  exact ⟨rfl, _, hmk, rfl⟩
set_option maxRecDepth 100000 in
theorem p_late (m : Mem) (w : WF (m 69)) (hd : nb (m 69 1) 10000) (x n0 : Nat) (hx : x < 2 ^ n0) (h1 : 0 ≤ nI x ∧ nI x ≤ (1 : Int32) <<< (m 69 0 &&& 31) - 1) (hn0 : hn (m 69) = n0) (N : Nat) (hN : N ≤ 60) (hno : ∀ j, j < N → ¬ (fun e : Nat → Int32 => nI x &&& (setF (fun h => hf e h 3 = 0) (hn e) ^^^ -1) = 0) (itD j (m 69))) (hyes : (fun e : Nat → Int32 => nI x &&& (setF (fun h => hf e h 3 = 0) (hn e) ^^^ -1) = 0) (itD N (m 69))) : JM l g 6 mX12_late [rf g 68, .int (nI x)] m (RS (some (.int (nI N))) (MK m)) := by
  refine JM_of (ls := [some (rf g 68), some (.int (nI x)), none, none]) pn_X12 rfl rfl ?_
  refine j_iload1 1 dX12_late_0 rfl ?_
  refine j_i2l 2 dX12_late_1 rfl ?_
  refine j_lconst 3 (v := 0) dX12_late_2 rfl rfl ?_
  refine j_iconst 4 (v := 1) dX12_late_3 rfl rfl ?_
  refine j_aload0 5 dX12_late_4 rfl ?_
  refine j_getR 8 dX12_late_5 rfl fl_X12_7 rfl rfl ?_
  refine j_iconst 9 (v := 0) dX12_late_8 rfl rfl ?_
  refine j_iald 10 0 rfl (by first | assumption | decide | omega) dX12_late_9 rfl rfl ?_
  refine j_ishl 11 dX12_late_10 rfl ?_
  refine j_iconst 12 (v := 1) dX12_late_11 rfl rfl ?_
  refine j_isub 13 dX12_late_12 rfl ?_
  refine j_i2l 14 dX12_late_13 rfl ?_
  refine j_st3f 17 dX12_late_14 rfl rfl cl_X12_47 rfl (c_in m _ 0 _) ?_
  refine j_if_ne_bz 26 20 dX12_late_17 rfl rfl (fun h17 => ?_) (fun h17 => absurd h1 h17)
  refine j_aload0 27 dX12_late_26 rfl ?_
  refine j_vi0v 30 dX12_late_27 rfl rfl cl_X12_226 rfl rfl (c_keepAside m) ?_
  refine j_iconst 31 (v := 0) dX12_late_30 rfl rfl ?_
  refine j_istore2 32 dX12_late_31 rfl rfl rfl ?_
  exact lm_late x n0 hx (m 69) w hd _ N hN hno hn0 (fun m1 r1 s1 => om_late x n0 hx m m1 w hn0 N hN hyes  r1 s1) N 0 _ (Nat.zero_add _) (upR_n (by decide)) Sm.rf
set_option maxRecDepth 100000 in
theorem q_late (m : Mem) (w : WF (m 69)) (hd : nb (m 69 1) 10000) (x n0 : Nat) (hx : x < 2 ^ n0) (h1 : 0 ≤ nI x ∧ nI x ≤ (1 : Int32) <<< (m 69 0 &&& 31) - 1) (hn0 : hn (m 69) = n0) (hno : ∀ j, j < 61 → ¬ (fun e : Nat → Int32 => nI x &&& (setF (fun h => hf e h 3 = 0) (hn e) ^^^ -1) = 0) (itD j (m 69))) : JM l g 6 mX12_late [rf g 68, .int (nI x)] m (RS (some (.int (-1000000002))) (fun m3 => ∃ m2, MK m m2 ∧ m3 = errM 2 m2)) := by
  refine JM_of (ls := [some (rf g 68), some (.int (nI x)), none, none]) pn_X12 rfl rfl ?_
  refine j_iload1 1 dX12_late_0 rfl ?_
  refine j_i2l 2 dX12_late_1 rfl ?_
  refine j_lconst 3 (v := 0) dX12_late_2 rfl rfl ?_
  refine j_iconst 4 (v := 1) dX12_late_3 rfl rfl ?_
  refine j_aload0 5 dX12_late_4 rfl ?_
  refine j_getR 8 dX12_late_5 rfl fl_X12_7 rfl rfl ?_
  refine j_iconst 9 (v := 0) dX12_late_8 rfl rfl ?_
  refine j_iald 10 0 rfl (by first | assumption | decide | omega) dX12_late_9 rfl rfl ?_
  refine j_ishl 11 dX12_late_10 rfl ?_
  refine j_iconst 12 (v := 1) dX12_late_11 rfl rfl ?_
  refine j_isub 13 dX12_late_12 rfl ?_
  refine j_i2l 14 dX12_late_13 rfl ?_
  refine j_st3f 17 dX12_late_14 rfl rfl cl_X12_47 rfl (c_in m _ 0 _) ?_
  refine j_if_ne_bz 26 20 dX12_late_17 rfl rfl (fun h17 => ?_) (fun h17 => absurd h1 h17)
  refine j_aload0 27 dX12_late_26 rfl ?_
  refine j_vi0v 30 dX12_late_27 rfl rfl cl_X12_226 rfl rfl (c_keepAside m) ?_
  refine j_iconst 31 (v := 0) dX12_late_30 rfl rfl ?_
  refine j_istore2 32 dX12_late_31 rfl rfl rfl ?_
  exact lm_late x n0 hx (m 69) w hd _ 60 (by decide) (fun j hj => hno j (by omega)) hn0 (fun m1 r1 s1 => nm_late x n0 hx m m1 w hn0 hno r1 s1) 60 0 _ (Nat.zero_add _) (upR_n (by decide)) Sm.rf
set_option maxRecDepth 100000 in
theorem e_late (m : Mem) (a : Int32) (c : ¬ (0 ≤ a ∧ a < (1 : Int32) <<< (m 9 9 &&& 31))) : JM l g 2 mX11_late [rf g 0, .int a] m (RF (some (.int (-1000000001))) (errC 1 m)) := by
  refine JM_of (ls := [some (rf g 0), some (.int a), none]) pn_X11 rfl rfl ?_
  refine j_aload0 1 dX11_late_0 rfl ?_
  refine j_iload1 2 dX11_late_1 rfl ?_
  refine j_vi1f 5 dX11_late_2 rfl rfl cl_X11_224 rfl rfl (c_isSet m a) ?_
  refine j_if_ne_bz 15 8 dX11_late_5 rfl rfl (fun h5 => absurd h5 c) (fun h5 => ?_)
  refine j_aload0 9 dX11_late_8 rfl ?_
  refine j_ldc 11 dX11_late_9 rfl kc_X11_81 ?_
  refine j_vi1f 14 dX11_late_11 rfl rfl cl_X11_82 rfl rfl (c_err1 m) ?_
  refine j_iret dX11_late_14 rfl ?_
  exact ⟨rfl, rfl⟩
set_option maxRecDepth 100000 in
theorem f_late (m : Mem) (a : Int32) (c : ¬ (0 ≤ a ∧ a ≤ (1 : Int32) <<< (m 69 0 &&& 31) - 1)) : JM l g 2 mX12_late [rf g 68, .int a] m (RF (some (.int (-1000000001))) (errM 1 m)) := by
  refine JM_of (ls := [some (rf g 68), some (.int a), none, none]) pn_X12 rfl rfl ?_
  refine j_iload1 1 dX12_late_0 rfl ?_
  refine j_i2l 2 dX12_late_1 rfl ?_
  refine j_lconst 3 (v := 0) dX12_late_2 rfl rfl ?_
  refine j_iconst 4 (v := 1) dX12_late_3 rfl rfl ?_
  refine j_aload0 5 dX12_late_4 rfl ?_
  refine j_getR 8 dX12_late_5 rfl fl_X12_7 rfl rfl ?_
  refine j_iconst 9 (v := 0) dX12_late_8 rfl rfl ?_
  refine j_iald 10 0 rfl (by first | assumption | decide | omega) dX12_late_9 rfl rfl ?_
  refine j_ishl 11 dX12_late_10 rfl ?_
  refine j_iconst 12 (v := 1) dX12_late_11 rfl rfl ?_
  refine j_isub 13 dX12_late_12 rfl ?_
  refine j_i2l 14 dX12_late_13 rfl ?_
  refine j_st3f 17 dX12_late_14 rfl rfl cl_X12_47 rfl (c_in m a 0 _) ?_
  refine j_if_ne_bz 26 20 dX12_late_17 rfl rfl (fun h17 => absurd h17 c) (fun h17 => ?_)
  refine j_aload0 21 dX12_late_20 rfl ?_
  refine j_iconst 22 (v := 1) dX12_late_21 rfl rfl ?_
  refine j_vi1f 25 dX12_late_22 rfl rfl cl_X12_126 rfl rfl (c_finds1 m) ?_
  refine j_iret dX12_late_25 rfl ?_
  exact ⟨rfl, rfl⟩
theorem op_late {m : Mem} (I : INV m) (a : Int32) : OPr l g mX11_late mX12_late [.int a] m := by
  obtain ⟨⟨wf, hd, hT, hP⟩, -⟩ := id I
  by_cases c : 0 ≤ a ∧ a < (1 : Int32) <<< (m 69 0 &&& 31)
  · obtain ⟨x, hx, rfl⟩ := (set_c wf).mp c
    have cm := (set_m wf).mpr ⟨x, hx, rfl⟩
    rcases find60 (fun e => nI x &&& (setF (fun h => hf e h 3 = 0) (hn e) ^^^ -1) = 0) (m 69) with ⟨N, hN, hy, hno⟩ | hno
    · exact OPr_ask (d2 := 6) I (by decide) (by decide) (o_late m (m 69) wf hT hP x _ hx (by rw [hT.1]; exact c) N hN hno hy) (fun m' s => p_late m' (by rw [dn s]; exact wf) (by rw [dn s]; exact hd) x _ hx (by rw [dn s]; exact cm) (by rw [dn s]) N hN (by rw [dn s]; exact hno) (by rw [dn s]; exact hy))
    · exact OPr_none (d2 := 6) I (by decide) (by decide) (by decide) (n_late m (m 69) wf hT hP x _ hx (by rw [hT.1]; exact c) hno) (fun m' s => by
        have e : errC 2 m' 69 = m 69 := (errC_o (by decide)).trans (dn s)
        exact q_late (errC 2 m') (by rw [e]; exact wf) (by rw [e]; exact hd) x _ hx (by rw [e]; exact cm) (by rw [e]) (by rw [e]; exact hno))
  · exact OPr_err I (by decide) (by decide) (by decide) (e_late m a (by rw [hT.1]; exact c)) (f_late _ a (fun q => c ((set_c wf).mpr ((set_m wf).mp (by rw [errC_o (by decide)] at q; exact q)))))
end O11
