section O15
variable {l : Launch} {g : Gv}
/-- the class's days of check, from day i on: all told alike up to N -/
theorem lp_check {Q : Option Value → Mem → Prop} (d0 : Nat → Int32) (w0 : WF d0) (m0 : Mem) (K N : Nat) (hK : K ≤ 20) (hN : N ≤ K) (h38 : ∀ i, i < 20 → m0 38 i = d0 (90 + i)) (hno : ∀ j, j < N → itD (j + 1) d0 4 = d0 (90 + j)) (kk : ∀ m', TR 18 m' (itD N d0) → LR m' 39 (itD N d0) 0 → LR m' 43 (itD N d0) 1 → Sm thS m0 m' → J l g 6 mX11_check 22 [some (rf g 0), some (.int (nI K)), some (.int (nI N))] [] m' Q) : ∀ (k n : Nat) (m : Mem), n + k = N → TR 18 m (itD n d0) → LR m 39 (itD n d0) 0 → LR m 43 (itD n d0) 1 → Sm thS m0 m → J l g 6 mX11_check 22 [some (rf g 0), some (.int (nI K)), some (.int (nI n))] [] m Q := by
  intro k
  induction k with
  | zero =>
    intro n m e hT hl0 hl1 hs
    have e : n = N := by omega
    subst e
    exact kk m hT hl0 hl1 hs
  | succ k ih =>
    intro n m e hT hl0 hl1 hs
    have e2 : nI n + 1 = nI (n + 1) := nI_1 n
    have w := itD_wf n w0
    refine j_iload2 23 dX11_check_22 rfl ?_
    refine j_iload1 24 dX11_check_23 rfl ?_
    refine j_cmp_ge 73 27 dX11_check_24 rfl rfl (fun h24 => absurd h24 (nI_ge (a := n) (b := K) (by omega) (by omega))) (fun h24 => ?_)
    refine j_iload2 28 dX11_check_27 rfl ?_
    refine j_bipush 30 (v := 20) dX11_check_28 rfl rfl ?_
    refine j_cmp_ge 73 33 dX11_check_30 rfl rfl (fun h30 => absurd h30 (show ¬ (20 : Int32) ≤ nI n from nI_ge (a := n) (b := 20) (by omega) (by decide))) (fun h30 => ?_)
    refine j_aload0 34 dX11_check_33 rfl ?_
    refine j_getR 37 dX11_check_34 rfl fl_X11_39 rfl rfl ?_
    refine j_aload0 38 dX11_check_37 rfl ?_
    refine j_getR 41 dX11_check_38 rfl fl_X11_48 rfl rfl ?_
    refine j_vi1w 44 dX11_check_41 rfl rfl cl_X11_213 rfl rfl (c_goDay_18 m (itD n d0) w hT hl0 hl1) (fun m41 q41 => ?_)
    refine j_aload0 45 dX11_check_44 rfl ?_
    refine j_getR 48 dX11_check_45 rfl fl_X11_39 rfl rfl ?_
    refine j_getI 51 dX11_check_48 rfl fl_X11_110 rfl rfl ?_
    refine j_aload0 52 dX11_check_51 rfl ?_
    refine j_getR 55 dX11_check_52 rfl fl_X11_48 rfl rfl ?_
    refine j_getR 58 dX11_check_55 rfl fl_X11_317 rfl rfl ?_
    refine j_iload2 59 dX11_check_58 rfl ?_
    refine j_iald 60 n rfl (show n < 20 by omega) dX11_check_59 rfl rfl ?_
    refine j_cmp_eq 67 63 dX11_check_60 rfl rfl (fun h60 => ?_) (fun h60 => absurd (by rw [q41.1.2.2.2.1, ← itD_s, q41.2 38 (by decide), hs 38 (by decide), h38 n (by omega)]; exact hno n (by omega)) h60)
    refine j_iinc2 70 (1) dX11_check_67 rfl rfl rfl rfl ?_
    refine j_goto 22 dX11_check_70 rfl ?_
    rw [e2]
    have ek : ∀ k, 88 ≤ k → dayF (itD n d0) k = itD n d0 k := fun k hk => dayF_k w (Or.inr hk) (by omega) (by omega)
    exact ih (n + 1) m41 (by omega) (by rw [itD_s]; exact q41.1) (by rw [itD_s]; exact LR_congr (by decide) hl0 (q41.2 39 (by decide)) (q41.2 40 (by decide)) ek) (by rw [itD_s]; exact LR_congr (by decide) hl1 (q41.2 43 (by decide)) (q41.2 44 (by decide)) ek) (hs.trans (q41.2.mono (by decide)))
/-- the reference's -/
theorem lm_check {Q : Option Value → Mem → Prop} (d0 : Nat → Int32) (w0 : WF d0) (hd0 : nb (d0 1) 10000) (m0 : Mem) (K N : Nat) (hK : K ≤ 20) (hN : N ≤ K) (hno : ∀ j, j < N → itD (j + 1) d0 4 = d0 (90 + j)) (h90 : ∀ n i, i < 20 → itD n d0 (90 + i) = d0 (90 + i)) (kk : ∀ m', m' 69 = itD N d0 → Sm [69, 73, 75] m0 m' → J l g 6 mX12_check 24 [some (rf g 68), some (.int (nI K)), some (.int 0), some (.int (nI N))] [] m' Q) : ∀ (k n : Nat) (m : Mem), n + k = N → m 69 = itD n d0 → Sm [69, 73, 75] m0 m → J l g 6 mX12_check 24 [some (rf g 68), some (.int (nI K)), some (.int 0), some (.int (nI n))] [] m Q := by
  intro k
  induction k with
  | zero =>
    intro n m e hm hs
    have e : n = N := by omega
    subst e
    exact kk m hm hs
  | succ k ih =>
    intro n m e hm hs
    have e2 : nI n + 1 = nI (n + 1) := nI_1 n
    have w : WF (m 69) := by rw [hm]; exact itD_wf n w0
    have hd : nb (m 69 1) 19999 := by rw [hm]; exact nb_up (itnb n w0 hd0) (by omega)
    refine j_iload3 25 dX12_check_24 rfl ?_
    refine j_iload1 26 dX12_check_25 rfl ?_
    refine j_cmp_ge 69 29 dX12_check_26 rfl rfl (fun h26 => absurd h26 (nI_ge (a := n) (b := K) (by omega) (by omega))) (fun h26 => ?_)
    refine j_iload2 30 dX12_check_29 rfl ?_
    refine j_if_ne 69 33 dX12_check_30 rfl rfl (fun h30 => absurd h30 (fun q => q rfl)) (fun h30 => ?_)
    refine j_aload0 34 dX12_check_33 rfl ?_
    refine j_vi0w 37 dX12_check_34 rfl rfl cl_X12_171 rfl rfl (c_mday m w hd) (fun m34 q34 => ?_)
    refine j_aload0 38 dX12_check_37 rfl ?_
    refine j_getR 41 dX12_check_38 rfl fl_X12_7 rfl rfl ?_
    refine j_bipush 43 (v := nI 90) dX12_check_41 rfl rfl ?_
    refine j_iload3 44 dX12_check_43 rfl ?_
    refine j_iaddN 45 dX12_check_44 rfl ?_
    refine j_iald 46 _ rfl (show 90 + n < 260 by omega) dX12_check_45 rfl rfl ?_
    refine j_aload0 47 dX12_check_46 rfl ?_
    refine j_getR 50 dX12_check_47 rfl fl_X12_7 rfl rfl ?_
    refine j_iconst 51 (v := 4) dX12_check_50 rfl rfl ?_
    refine j_iald 52 4 rfl (by first | assumption | decide | omega) dX12_check_51 rfl rfl ?_
    refine j_cmp_ne 59 55 dX12_check_52 rfl rfl (fun h52 => absurd h52 (fun q => q (by rw [q34.1, hm, ← itD_s, h90 (n + 1) n (by omega)]; exact (hno n (by omega)).symm))) (fun h52 => ?_)
    refine j_iconst 56 (v := 0) dX12_check_55 rfl rfl ?_
    refine j_goto 62 dX12_check_56 rfl ?_
    refine j_istore2 63 dX12_check_62 rfl rfl rfl ?_
    refine j_iinc3 66 (1) dX12_check_63 rfl rfl rfl rfl ?_
    refine j_goto 24 dX12_check_66 rfl ?_
    rw [e2]
    exact ih (n + 1) m34 (by omega) (by rw [itD_s, q34.1, hm]) (hs.trans q34.2)
theorem it90 {d : Nat → Int32} (w : WF d) : ∀ n i, itD n d (90 + i) = d (90 + i)
  | 0, _ => rfl
  | n + 1, i => by rw [itD_s, dayF_k (itD_wf n w) (Or.inr (by omega)) (by omega) (by omega), it90 w n i]
set_option maxRecDepth 100000 in
theorem o_checkY (m : Mem) (e : Nat → Int32) (w : WF e) (hT : TR 9 m e) (l0 : LR m 39 e 0) (l1 : LR m 43 e 1) (K N : Nat) (hK : K ≤ 20) (hN : N < K) (e5 : m 36 5 = nI K) (h38 : ∀ i, i < 20 → m 38 i = e (90 + i)) (hno : ∀ j, j < N → itD (j + 1) e 4 = e (90 + j)) (hy : itD (N + 1) e 4 ≠ e (90 + N)) : JM l g 6 mX11_check [rf g 0] m (RS (some (.int (1 + nI N))) (Sm thS (up2 m 36 5 0))) := by
  refine JM_of (ls := [some (rf g 0), none, none]) pn_X11 rfl rfl ?_
  refine j_aload0 1 dX11_check_0 rfl ?_
  refine j_getR 4 dX11_check_1 rfl fl_X11_48 rfl rfl ?_
  refine j_getI 7 dX11_check_4 rfl fl_X11_311 rfl rfl ?_
  refine j_istore1 8 dX11_check_7 rfl rfl rfl ?_
  refine j_aload0 9 dX11_check_8 rfl ?_
  refine j_getR 12 dX11_check_9 rfl fl_X11_48 rfl rfl ?_
  refine j_iconst 13 (v := 0) dX11_check_12 rfl rfl ?_
  refine j_putI 16 dX11_check_13 rfl fp_X11_311 rfl rfl ?_
  refine j_aload0 17 dX11_check_16 rfl ?_
  refine j_vi0w 20 dX11_check_17 rfl rfl cl_X11_217 rfl rfl (c_think _) (fun m17 q17 => ?_)
  refine j_iconst 21 (v := 0) dX11_check_20 rfl rfl ?_
  refine j_istore2 22 dX11_check_21 rfl rfl rfl ?_
  rw [e5]
  have o : ∀ b, b ≠ 36 → b ∉ [18, 19, 20, 21, 22, 23, 24, 25, 26] → m17 b = m b := fun b h1 h2 => (q17.2 b h2).trans (up2_r h1)
  refine lp_check e w (up2 m 36 5 0) K N hK (by omega) (fun i hi => by rw [up2_a (by decide)]; exact h38 i hi) hno (fun m1 hT1 k0 k1 hs1 => ?_) N 0 m17 (Nat.zero_add _) (q17.1 e (TR_same hT (fun b b1 b2 => up2_r (by omega)))) (LR_congr (by decide) l0 (o 39 (by decide) (by decide)) (o 40 (by decide) (by decide)) (fun _ _ => rfl)) (LR_congr (by decide) l1 (o 43 (by decide) (by decide)) (o 44 (by decide) (by decide)) (fun _ _ => rfl)) (q17.2.mono (by decide))
  have w1 := itD_wf N w
  refine j_iload2 23 dX11_check_22 rfl ?_
  refine j_iload1 24 dX11_check_23 rfl ?_
  refine j_cmp_ge 73 27 dX11_check_24 rfl rfl (fun h24 => absurd h24 (nI_ge (a := N) (b := K) (by omega) (by omega))) (fun h24 => ?_)
  refine j_iload2 28 dX11_check_27 rfl ?_
  refine j_bipush 30 (v := 20) dX11_check_28 rfl rfl ?_
  refine j_cmp_ge 73 33 dX11_check_30 rfl rfl (fun h30 => absurd h30 (show ¬ (20 : Int32) ≤ nI N from nI_ge (a := N) (b := 20) (by omega) (by decide))) (fun h30 => ?_)
  refine j_aload0 34 dX11_check_33 rfl ?_
  refine j_getR 37 dX11_check_34 rfl fl_X11_39 rfl rfl ?_
  refine j_aload0 38 dX11_check_37 rfl ?_
  refine j_getR 41 dX11_check_38 rfl fl_X11_48 rfl rfl ?_
  refine j_vi1w 44 dX11_check_41 rfl rfl cl_X11_213 rfl rfl (c_goDay_18 m1 (itD N e) w1 hT1 k0 k1) (fun m41 q41 => ?_)
  refine j_aload0 45 dX11_check_44 rfl ?_
  refine j_getR 48 dX11_check_45 rfl fl_X11_39 rfl rfl ?_
  refine j_getI 51 dX11_check_48 rfl fl_X11_110 rfl rfl ?_
  refine j_aload0 52 dX11_check_51 rfl ?_
  refine j_getR 55 dX11_check_52 rfl fl_X11_48 rfl rfl ?_
  refine j_getR 58 dX11_check_55 rfl fl_X11_317 rfl rfl ?_
  refine j_iload2 59 dX11_check_58 rfl ?_
  refine j_iald 60 N rfl (show N < 20 by omega) dX11_check_59 rfl rfl ?_
  refine j_cmp_eq 67 63 dX11_check_60 rfl rfl (fun h60 => absurd h60 (by rw [q41.1.2.2.2.1, ← itD_s, q41.2 38 (by decide), hs1 38 (by decide), up2_a (by decide), h38 N (by omega)]; exact hy)) (fun h60 => ?_)
  refine j_iconst 64 (v := 1) dX11_check_63 rfl rfl ?_
  refine j_iload2 65 dX11_check_64 rfl ?_
  refine j_iadd 66 dX11_check_65 rfl ?_
  refine j_iret dX11_check_66 rfl ?_
  exact ⟨rfl, hs1.trans (q41.2.mono (by decide))⟩
set_option maxRecDepth 100000 in
theorem p_checkY (m : Mem) (e : Nat → Int32) (he : e = upd1 (m 69) 7 0) (w : WF e) (hd : nb (e 1) 10000) (K N : Nat) (hK : K ≤ 20) (hN : N < K) (e7 : m 69 7 = nI K) (hno : ∀ j, j < N → itD (j + 1) e 4 = e (90 + j)) (hy : itD (N + 1) e 4 ≠ e (90 + N)) : JM l g 6 mX12_check [rf g 68] m (RS (some (.int (1 + nI N))) (MK (up2 m 69 7 0))) := by
  refine JM_of (ls := [some (rf g 68), none, none, none]) pn_X12 rfl rfl ?_
  refine j_aload0 1 dX12_check_0 rfl ?_
  refine j_getR 4 dX12_check_1 rfl fl_X12_7 rfl rfl ?_
  refine j_bipush 6 (v := nI 7) dX12_check_4 rfl rfl ?_
  refine j_iald 7 7 rfl (by decide) dX12_check_6 rfl rfl ?_
  refine j_istore1 8 dX12_check_7 rfl rfl rfl ?_
  refine j_aload0 9 dX12_check_8 rfl ?_
  refine j_getR 12 dX12_check_9 rfl fl_X12_7 rfl rfl ?_
  refine j_bipush 14 (v := nI 7) dX12_check_12 rfl rfl ?_
  refine j_iconst 15 (v := 0) dX12_check_14 rfl rfl ?_
  refine j_iast 16 7 rfl (by decide) dX12_check_15 rfl rfl ?_
  refine j_aload0 17 dX12_check_16 rfl ?_
  refine j_vi0v 20 dX12_check_17 rfl rfl cl_X12_226 rfl rfl (c_keepAside _) ?_
  refine j_iconst 21 (v := 0) dX12_check_20 rfl rfl ?_
  refine j_istore2 22 dX12_check_21 rfl rfl rfl ?_
  refine j_iconst 23 (v := 0) dX12_check_22 rfl rfl ?_
  refine j_istore3 24 dX12_check_23 rfl rfl rfl ?_
  rw [e7]
  have r69 : up2 m 69 7 0 69 = e := by rw [up2_row69, he]
  have e69 : upR (up2 m 69 7 0) 71 (rst (up2 m 69 7 0 69) (up2 m 69 7 0 71)) 69 = e := (upR_n (by decide)).trans r69
  refine lm_check e w hd (upR (up2 m 69 7 0) 71 (rst (up2 m 69 7 0 69) (up2 m 69 7 0 71))) K N hK (by omega) hno (fun n i _ => it90 w n i) (fun m1 hm1 hs1 => ?_) N 0 _ (Nat.zero_add _) e69 Sm.rf
  have w1 : WF (m1 69) := by rw [hm1]; exact itD_wf N w
  have hd1 : nb (m1 69 1) 19999 := by rw [hm1]; exact nb_up (itnb N w hd) (by omega)
  have e2 : nI N + 1 = nI (N + 1) := nI_1 N
  have z : (1 : Int32) + nI N ≠ 0 := by rw [show (1 : Int32) = nI 1 from rfl, nI_add]; exact fun q => absurd (show nI (1 + N) = nI 0 from q) (fun q => by have h1 := nI_lt (a := 0) (b := 1 + N) (by omega) (by omega); rw [q] at h1; exact Int32.lt_irrefl h1)
  refine j_iload3 25 dX12_check_24 rfl ?_
  refine j_iload1 26 dX12_check_25 rfl ?_
  refine j_cmp_ge 69 29 dX12_check_26 rfl rfl (fun h26 => absurd h26 (nI_ge (a := N) (b := K) (by omega) (by omega))) (fun h26 => ?_)
  refine j_iload2 30 dX12_check_29 rfl ?_
  refine j_if_ne 69 33 dX12_check_30 rfl rfl (fun h30 => absurd h30 (fun q => q rfl)) (fun h30 => ?_)
  refine j_aload0 34 dX12_check_33 rfl ?_
  refine j_vi0w 37 dX12_check_34 rfl rfl cl_X12_171 rfl rfl (c_mday m1 w1 hd1) (fun m34 q34 => ?_)
  refine j_aload0 38 dX12_check_37 rfl ?_
  refine j_getR 41 dX12_check_38 rfl fl_X12_7 rfl rfl ?_
  refine j_bipush 43 (v := nI 90) dX12_check_41 rfl rfl ?_
  refine j_iload3 44 dX12_check_43 rfl ?_
  refine j_iaddN 45 dX12_check_44 rfl ?_
  refine j_iald 46 _ rfl (show 90 + N < 260 by omega) dX12_check_45 rfl rfl ?_
  refine j_aload0 47 dX12_check_46 rfl ?_
  refine j_getR 50 dX12_check_47 rfl fl_X12_7 rfl rfl ?_
  refine j_iconst 51 (v := 4) dX12_check_50 rfl rfl ?_
  refine j_iald 52 4 rfl (by first | assumption | decide | omega) dX12_check_51 rfl rfl ?_
  refine j_cmp_ne 59 55 dX12_check_52 rfl rfl (fun h52 => ?_) (fun h52 => absurd h52 (by rw [q34.1, hm1, ← itD_s, it90 w (N + 1) N]; exact fun q => hy q.symm))
  refine j_iconst 60 (v := 1) dX12_check_59 rfl rfl ?_
  refine j_iload3 61 dX12_check_60 rfl ?_
  refine j_iadd 62 dX12_check_61 rfl ?_
  refine j_istore2 63 dX12_check_62 rfl rfl rfl ?_
  refine j_iinc3 66 (1) dX12_check_63 rfl rfl rfl rfl ?_
  refine j_goto 24 dX12_check_66 rfl ?_
  refine j_iload3 25 dX12_check_24 rfl ?_
  refine j_iload1 26 dX12_check_25 rfl ?_
  refine j_cmp_ge 69 29 dX12_check_26 rfl rfl (fun h26 => ?_) (fun h26 => ?_)
  · refine j_aload0 70 dX12_check_69 rfl ?_
    refine j_vi0v 73 dX12_check_70 rfl rfl cl_X12_223 rfl rfl (c_putBack _) ?_
    refine j_iload2 74 dX12_check_73 rfl ?_
    refine j_iret dX12_check_74 rfl ?_
    exact ⟨rfl, by rw [upR_s, q34.2 71 (by decide), hs1 71 (by decide), upR_s, q34.1, hm1, ← itD_s, r69, rst_it w, rst_rst], ((Sm.rf.row (by decide)).trans ((hs1.trans q34.2).mono (by decide))).row (by decide)⟩
  · refine j_iload2 30 dX12_check_29 rfl ?_
    refine j_if_ne 69 33 dX12_check_30 rfl rfl (fun h30 => ?_) (fun h30 => absurd h30 z)
    refine j_aload0 70 dX12_check_69 rfl ?_
    refine j_vi0v 73 dX12_check_70 rfl rfl cl_X12_223 rfl rfl (c_putBack _) ?_
    refine j_iload2 74 dX12_check_73 rfl ?_
    refine j_iret dX12_check_74 rfl ?_
    exact ⟨rfl, by rw [upR_s, q34.2 71 (by decide), hs1 71 (by decide), upR_s, q34.1, hm1, ← itD_s, r69, rst_it w, rst_rst], ((Sm.rf.row (by decide)).trans ((hs1.trans q34.2).mono (by decide))).row (by decide)⟩
set_option maxRecDepth 100000 in
theorem o_checkN (m : Mem) (e : Nat → Int32) (w : WF e) (hT : TR 9 m e) (l0 : LR m 39 e 0) (l1 : LR m 43 e 1) (K N : Nat) (hK : K ≤ 20) (hN : N = K) (e5 : m 36 5 = nI K) (h38 : ∀ i, i < 20 → m 38 i = e (90 + i)) (hno : ∀ j, j < N → itD (j + 1) e 4 = e (90 + j)) : JM l g 6 mX11_check [rf g 0] m (RS (some (.int (0))) (Sm thS (up2 m 36 5 0))) := by
  refine JM_of (ls := [some (rf g 0), none, none]) pn_X11 rfl rfl ?_
  refine j_aload0 1 dX11_check_0 rfl ?_
  refine j_getR 4 dX11_check_1 rfl fl_X11_48 rfl rfl ?_
  refine j_getI 7 dX11_check_4 rfl fl_X11_311 rfl rfl ?_
  refine j_istore1 8 dX11_check_7 rfl rfl rfl ?_
  refine j_aload0 9 dX11_check_8 rfl ?_
  refine j_getR 12 dX11_check_9 rfl fl_X11_48 rfl rfl ?_
  refine j_iconst 13 (v := 0) dX11_check_12 rfl rfl ?_
  refine j_putI 16 dX11_check_13 rfl fp_X11_311 rfl rfl ?_
  refine j_aload0 17 dX11_check_16 rfl ?_
  refine j_vi0w 20 dX11_check_17 rfl rfl cl_X11_217 rfl rfl (c_think _) (fun m17 q17 => ?_)
  refine j_iconst 21 (v := 0) dX11_check_20 rfl rfl ?_
  refine j_istore2 22 dX11_check_21 rfl rfl rfl ?_
  rw [e5]
  have o : ∀ b, b ≠ 36 → b ∉ [18, 19, 20, 21, 22, 23, 24, 25, 26] → m17 b = m b := fun b h1 h2 => (q17.2 b h2).trans (up2_r h1)
  refine lp_check e w (up2 m 36 5 0) K N hK (by omega) (fun i hi => by rw [up2_a (by decide)]; exact h38 i hi) hno (fun m1 hT1 k0 k1 hs1 => ?_) N 0 m17 (Nat.zero_add _) (q17.1 e (TR_same hT (fun b b1 b2 => up2_r (by omega)))) (LR_congr (by decide) l0 (o 39 (by decide) (by decide)) (o 40 (by decide) (by decide)) (fun _ _ => rfl)) (LR_congr (by decide) l1 (o 43 (by decide) (by decide)) (o 44 (by decide) (by decide)) (fun _ _ => rfl)) (q17.2.mono (by decide))
  subst hN
  refine j_iload2 23 dX11_check_22 rfl ?_
  refine j_iload1 24 dX11_check_23 rfl ?_
  refine j_cmp_ge 73 27 dX11_check_24 rfl rfl (fun h24 => ?_) (fun h24 => absurd (Int32.le_refl _) h24)
  refine j_iconst 74 (v := 0) dX11_check_73 rfl rfl ?_
  refine j_iret dX11_check_74 rfl ?_
  exact ⟨rfl, hs1⟩
set_option maxRecDepth 100000 in
theorem p_checkN (m : Mem) (e : Nat → Int32) (he : e = upd1 (m 69) 7 0) (w : WF e) (hd : nb (e 1) 10000) (K N : Nat) (hK : K ≤ 20) (hN : N = K) (e7 : m 69 7 = nI K) (hno : ∀ j, j < N → itD (j + 1) e 4 = e (90 + j)) : JM l g 6 mX12_check [rf g 68] m (RS (some (.int (0))) (MK (up2 m 69 7 0))) := by
  refine JM_of (ls := [some (rf g 68), none, none, none]) pn_X12 rfl rfl ?_
  refine j_aload0 1 dX12_check_0 rfl ?_
  refine j_getR 4 dX12_check_1 rfl fl_X12_7 rfl rfl ?_
  refine j_bipush 6 (v := nI 7) dX12_check_4 rfl rfl ?_
  refine j_iald 7 7 rfl (by decide) dX12_check_6 rfl rfl ?_
  refine j_istore1 8 dX12_check_7 rfl rfl rfl ?_
  refine j_aload0 9 dX12_check_8 rfl ?_
  refine j_getR 12 dX12_check_9 rfl fl_X12_7 rfl rfl ?_
  refine j_bipush 14 (v := nI 7) dX12_check_12 rfl rfl ?_
  refine j_iconst 15 (v := 0) dX12_check_14 rfl rfl ?_
  refine j_iast 16 7 rfl (by decide) dX12_check_15 rfl rfl ?_
  refine j_aload0 17 dX12_check_16 rfl ?_
  refine j_vi0v 20 dX12_check_17 rfl rfl cl_X12_226 rfl rfl (c_keepAside _) ?_
  refine j_iconst 21 (v := 0) dX12_check_20 rfl rfl ?_
  refine j_istore2 22 dX12_check_21 rfl rfl rfl ?_
  refine j_iconst 23 (v := 0) dX12_check_22 rfl rfl ?_
  refine j_istore3 24 dX12_check_23 rfl rfl rfl ?_
  rw [e7]
  have r69 : up2 m 69 7 0 69 = e := by rw [up2_row69, he]
  have e69 : upR (up2 m 69 7 0) 71 (rst (up2 m 69 7 0 69) (up2 m 69 7 0 71)) 69 = e := (upR_n (by decide)).trans r69
  refine lm_check e w hd (upR (up2 m 69 7 0) 71 (rst (up2 m 69 7 0 69) (up2 m 69 7 0 71))) K N hK (by omega) hno (fun n i _ => it90 w n i) (fun m1 hm1 hs1 => ?_) N 0 _ (Nat.zero_add _) e69 Sm.rf
  subst hN
  refine j_iload3 25 dX12_check_24 rfl ?_
  refine j_iload1 26 dX12_check_25 rfl ?_
  refine j_cmp_ge 69 29 dX12_check_26 rfl rfl (fun h26 => ?_) (fun h26 => absurd (Int32.le_refl _) h26)
  refine j_aload0 70 dX12_check_69 rfl ?_
  refine j_vi0v 73 dX12_check_70 rfl rfl cl_X12_223 rfl rfl (c_putBack _) ?_
  refine j_iload2 74 dX12_check_73 rfl ?_
  refine j_iret dX12_check_74 rfl ?_
  exact ⟨rfl, by rw [upR_s, hs1 71 (by decide), upR_s, hm1, r69, rst_it w, rst_rst], ((Sm.rf.row (by decide)).trans (hs1.mono (by decide))).row (by decide)⟩
theorem findK (P : Nat → Prop) : ∀ K, (∃ N, N < K ∧ ¬ P N ∧ ∀ j, j < N → P j) ∨ ∀ j, j < K → P j
  | 0 => Or.inr (fun j hj => absurd hj (Nat.not_lt_zero j))
  | K + 1 => by
    rcases findK P K with ⟨N, a, b, c⟩ | h
    · exact Or.inl ⟨N, by omega, b, c⟩
    · by_cases q : P K
      · exact Or.inr (fun j hj => by rcases (show j < K ∨ j = K by omega) with z | rfl; exact h j z; exact q)
      · exact Or.inl ⟨K, by omega, q, h⟩
theorem WF_7 {d : Nat → Int32} (w : WF d) : WF (upd1 d 7 0) := by
  obtain ⟨w1, w2, w3, w4, w5, w6, w7, w8, w9, w10, w11, w12⟩ := w
  have o : ∀ j, j ≠ 7 → upd1 d 7 0 j = d j := fun j hj => if_neg hj
  obtain ⟨n0, a1, a2, a3⟩ := w10
  obtain ⟨n1, b1, b2, b3⟩ := w11
  refine ⟨by rw [o 0 (by omega)]; exact w1, by rw [o 2 (by omega)]; exact w2, by rw [o 3 (by omega)]; exact w3, by rw [o 4 (by omega)]; exact w4, by rw [o 6 (by omega)]; exact w5, ⟨0, by omega, if_pos rfl⟩, fun i hi => by rw [o _ (by omega)]; exact w7 i hi, fun i hi => by rw [o _ (by omega)]; exact w8 i hi, fun h hh => HWr_eq (fun r hr => o _ (by omega)) (w9 h hh), ⟨n0, a1, by rw [o _ (by omega)]; exact a2, ?_⟩, ⟨n1, b1, by rw [o _ (by omega)]; exact b2, ?_⟩, fun i hi => by rw [o _ (by omega)]; exact w12 i hi⟩
  · rw [show (fun j => upd1 d 7 0 (110 + 50 * 0 + j)) = (fun j => d (110 + 50 * 0 + j)) from funext fun j => o _ (by omega)]; exact a3
  · rw [show (fun j => upd1 d 7 0 (110 + 50 * 1 + j)) = (fun j => d (110 + 50 * 1 + j)) from funext fun j => o _ (by omega)]; exact b3
theorem op_check {m : Mem} (I : INV m) : OPr l g mX11_check mX12_check [] m := by
  obtain ⟨⟨wf, hd, hT, hP⟩, -⟩ := id I
  obtain ⟨K, hK, eK⟩ := wf.2.2.2.2.2.1
  have o : ∀ j, j ≠ 7 → upd1 (m 69) 7 0 j = m 69 j := fun j hj => if_neg hj
  have e5 : m 36 5 = nI K := hP.2.1.trans eK
  have w' := WF_7 wf
  have hT' : TR 9 m (upd1 (m 69) 7 0) := TR_d hT (fun k h1 h2 => o k (by omega))
  have hd' : nb (upd1 (m 69) 7 0 1) 10000 := by rw [o 1 (by decide)]; exact hd
  obtain ⟨p4, p5, p6, pt, pw, l0, l1⟩ := id hP
  have l0' : LR m 39 (upd1 (m 69) 7 0) 0 := LR_congr (by decide) l0 rfl rfl (fun k hk => o k (by omega))
  have l1' : LR m 43 (upd1 (m 69) 7 0) 1 := LR_congr (by decide) l1 rfl rfl (fun k hk => o k (by omega))
  have c : ∀ b, b ≠ 36 → up2 m 36 5 0 b = m b := fun b hb => up2_r hb
  have I' : INV (up2 (up2 m 36 5 0) 69 7 0) := INV_one I (by decide) (by decide) (by decide) w' (by decide) (TR_same hT' (fun b b1 b2 => c b (by omega))) ⟨by rw [up2_k (by decide), o 6 (by decide)]; exact p4, by rw [up2_s]; exact (if_pos rfl).symm, by rw [up2_k (by decide), o 5 (by decide)]; exact p6, fun i hi => by rw [c 37 (by decide), o _ (by omega)]; exact pt i hi, fun i hi => by rw [c 38 (by decide), o _ (by omega)]; exact pw i hi, LR_congr (by decide) l0' (c 39 (by decide)) (c 40 (by decide)) (fun _ _ => rfl), LR_congr (by decide) l1' (c 43 (by decide)) (c 44 (by decide)) (fun _ _ => rfl)⟩
  have h38 : ∀ i, i < 20 → m 38 i = upd1 (m 69) 7 0 (90 + i) := fun i hi => by rw [o _ (by omega)]; exact pw i hi
  have fin : ∀ m1, Sm thS (up2 m 36 5 0) m1 → m1 69 = m 69 ∧ ∀ m2, MK (up2 m1 69 7 0) m2 → INV m2 := fun m1 s1 => by
    have r : m1 69 = m 69 := (s1 69 (by decide)).trans (c 69 (by decide))
    refine ⟨r, fun m2 k => INV_ask I' (m' := up2 m1 69 7 0) (fun b hb => ?_) k.2 k.1⟩
    by_cases q : b = 69
    · subst q
      rw [up2_row69, up2_row69, r, c 69 (by decide)]
    · rw [up2_r q, up2_r q]; exact s1 b hb
  rcases findK (fun j => itD (j + 1) (upd1 (m 69) 7 0) 4 = upd1 (m 69) 7 0 (90 + j)) K with ⟨N, hN, hy, hno⟩ | hno
  · exact ⟨6, 6, _, _, by decide, by decide, o_checkY m _ w' hT' l0' l1' K N (by omega) hN e5 h38 hno hy, fun m1 s1 => by
      obtain ⟨r, f⟩ := fin m1 s1
      exact (p_checkY (l := l) (g := g) m1 (upd1 (m 69) 7 0) (by rw [r]) w' hd' K N (by omega) hN (by rw [r]; exact eK) hno hy).mono (RS_w f)⟩
  · exact ⟨6, 6, _, _, by decide, by decide, o_checkN m _ w' hT' l0' l1' K K (by omega) rfl e5 h38 hno, fun m1 s1 => by
      obtain ⟨r, f⟩ := fin m1 s1
      exact (p_checkN (l := l) (g := g) m1 (upd1 (m 69) 7 0) (by rw [r]) w' hd' K K (by omega) rfl (by rw [r]; exact eK) hno).mono (RS_w f)⟩
end O15
