section O15
variable {l : Launch} {g : Gv}
/-- the class's days of check, from day i on: all told alike up to N -/
theorem lp_check {Q : Option Value → Mem → Prop} (d0 : Nat → Int32) (w0 : WF d0) (m0 : Mem) (K N : Nat) (hK : K ≤ 20) (hN : N ≤ K) (h38 : ∀ i, i < 20 → m0 38 i = d0 (90 + i)) (hno : ∀ j, j < N → itD (j + 1) d0 4 = d0 (90 + j)) (kk : ∀ m', TR 18 m' (itD N d0) → LR m' 39 (itD N d0) 0 → LR m' 43 (itD N d0) 1 → Sm thS m0 m' → J l g 6 mX11_check 22 [some (rf g 0), some (.int (nI K)), some (.int (nI N))] [] m' Q) : ∀ (k n : Nat) (m : Mem), n + k = N → TR 18 m (itD n d0) → LR m 39 (itD n d0) 0 → LR m 43 (itD n d0) 1 → Sm thS m0 m → J l g 6 mX11_check 22 [some (rf g 0), some (.int (nI K)), some (.int (nI n))] [] m Q := by
  intro k
  induction k with
  | zero =>
    intro n m e hT hl0 hl1 hs
    have e : n = N := by omega
    subst e
    exact kk m hT hl0 hl1 hs
  | succ k ih =>
    intro n m e hT hl0 hl1 hs
    have e2 : nI n + 1 = nI (n + 1) := nI_1 n
    have w := itD_wf n w0
    refine j_iload2 23 dX11_check_22 rfl ?_
    refine j_iload1 24 dX11_check_23 rfl ?_
    refine j_cmp_ge 73 27 dX11_check_24 rfl rfl (fun h24 => absurd h24 (nI_ge (a := n) (b := K) (by omega) (by omega))) (fun h24 => ?_)
    refine j_iload2 28 dX11_check_27 rfl ?_
    refine j_bipush 30 (v := 20) dX11_check_28 rfl rfl ?_
    refine j_cmp_ge 73 33 dX11_check_30 rfl rfl (fun h30 => absurd h30 (show ¬ (20 : Int32) ≤ nI n from nI_ge (a := n) (b := 20) (by omega) (by decide))) (fun h30 => ?_)
    refine j_aload0 34 dX11_check_33 rfl ?_
    refine j_getR 37 dX11_check_34 rfl fl_X11_39 rfl rfl ?_
    refine j_aload0 38 dX11_check_37 rfl ?_
    refine j_getR 41 dX11_check_38 rfl fl_X11_48 rfl rfl ?_
    refine j_vi1w 44 dX11_check_41 rfl rfl cl_X11_213 rfl rfl (c_goDay_18 m (itD n d0) w hT hl0 hl1) (fun m41 q41 => ?_)
    refine j_aload0 45 dX11_check_44 rfl ?_
    refine j_getR 48 dX11_check_45 rfl fl_X11_39 rfl rfl ?_
    refine j_getI 51 dX11_check_48 rfl fl_X11_110 rfl rfl ?_
    refine j_aload0 52 dX11_check_51 rfl ?_
    refine j_getR 55 dX11_check_52 rfl fl_X11_48 rfl rfl ?_
    refine j_getR 58 dX11_check_55 rfl fl_X11_317 rfl rfl ?_
    refine j_iload2 59 dX11_check_58 rfl ?_
    refine j_iald 60 n rfl (show n < 20 by omega) dX11_check_59 rfl rfl ?_
    refine j_cmp_eq 67 63 dX11_check_60 rfl rfl (fun h60 => ?_) (fun h60 => absurd (by rw [q41.1.2.2.2.1, ← itD_s, q41.2 38 (by decide), hs 38 (by decide), h38 n (by omega)]; exact hno n (by omega)) h60)
    refine j_iinc2 70 (1) dX11_check_67 rfl rfl rfl rfl ?_
    refine j_goto 22 dX11_check_70 rfl ?_
    rw [e2]
    have ek : ∀ k, 88 ≤ k → dayF (itD n d0) k = itD n d0 k := fun k hk => dayF_k w (Or.inr hk) (by omega) (by omega)
    exact ih (n + 1) m41 (by omega) (by rw [itD_s]; exact q41.1) (by rw [itD_s]; exact LR_congr (by decide) hl0 (q41.2 39 (by decide)) (q41.2 40 (by decide)) ek) (by rw [itD_s]; exact LR_congr (by decide) hl1 (q41.2 43 (by decide)) (q41.2 44 (by decide)) ek) (hs.trans (q41.2.mono (by decide)))
/-- the reference's -/
theorem lm_check {Q : Option Value → Mem → Prop} (d0 : Nat → Int32) (w0 : WF d0) (hd0 : nb (d0 1) 10000) (m0 : Mem) (K N : Nat) (hK : K ≤ 20) (hN : N ≤ K) (hno : ∀ j, j < N → itD (j + 1) d0 4 = d0 (90 + j)) (h90 : ∀ n i, i < 20 → itD n d0 (90 + i) = d0 (90 + i)) (kk : ∀ m', m' 69 = itD N d0 → Sm [69, 73, 75] m0 m' → J l g 6 mX12_check 24 [some (rf g 68), some (.int (nI K)), some (.int 0), some (.int (nI N))] [] m' Q) : ∀ (k n : Nat) (m : Mem), n + k = N → m 69 = itD n d0 → Sm [69, 73, 75] m0 m → J l g 6 mX12_check 24 [some (rf g 68), some (.int (nI K)), some (.int 0), some (.int (nI n))] [] m Q := by
  intro k
  induction k with
  | zero =>
    intro n m e hm hs
    have e : n = N := by omega
    subst e
    exact kk m hm hs
  | succ k ih =>
    intro n m e hm hs
    have e2 : nI n + 1 = nI (n + 1) := nI_1 n
    have w : WF (m 69) := by rw [hm]; exact itD_wf n w0
    have hd : nb (m 69 1) 19999 := by rw [hm]; exact nb_up (itnb n w0 hd0) (by omega)
    refine j_iload3 25 dX12_check_24 rfl ?_
    refine j_iload1 26 dX12_check_25 rfl ?_
    refine j_cmp_ge 69 29 dX12_check_26 rfl rfl (fun h26 => absurd h26 (nI_ge (a := n) (b := K) (by omega) (by omega))) (fun h26 => ?_)
    refine j_iload2 30 dX12_check_29 rfl ?_
    refine j_if_ne 69 33 dX12_check_30 rfl rfl (fun h30 => absurd h30 (fun q => q rfl)) (fun h30 => ?_)
    refine j_aload0 34 dX12_check_33 rfl ?_
    refine j_vi0w 37 dX12_check_34 rfl rfl cl_X12_171 rfl rfl (c_mday m w hd) (fun m34 q34 => ?_)
    refine j_aload0 38 dX12_check_37 rfl ?_
    refine j_getR 41 dX12_check_38 rfl fl_X12_7 rfl rfl ?_
    refine j_bipush 43 (v := nI 90) dX12_check_41 rfl rfl ?_
    refine j_iload3 44 dX12_check_43 rfl ?_
    refine j_iaddN 45 dX12_check_44 rfl ?_
    refine j_iald 46 _ rfl (show 90 + n < 260 by omega) dX12_check_45 rfl rfl ?_
    refine j_aload0 47 dX12_check_46 rfl ?_
    refine j_getR 50 dX12_check_47 rfl fl_X12_7 rfl rfl ?_
    refine j_iconst 51 (v := 4) dX12_check_50 rfl rfl ?_
    refine j_iald 52 4 rfl (by first | assumption | decide | omega) dX12_check_51 rfl rfl ?_
    refine j_cmp_ne 59 55 dX12_check_52 rfl rfl (fun h52 => absurd h52 (fun q => q (by rw [q34.1, hm, ← itD_s, h90 (n + 1) n (by omega)]; exact (hno n (by omega)).symm))) (fun h52 => ?_)
    refine j_iconst 56 (v := 0) dX12_check_55 rfl rfl ?_
    refine j_goto 62 dX12_check_56 rfl ?_
    refine j_istore2 63 dX12_check_62 rfl rfl rfl ?_
    refine j_iinc3 66 (1) dX12_check_63 rfl rfl rfl rfl ?_
    refine j_goto 24 dX12_check_66 rfl ?_
    rw [e2]
    exact ih (n + 1) m34 (by omega) (by rw [itD_s, q34.1, hm]) (hs.trans q34.2)
theorem it90 {d : Nat → Int32} (w : WF d) : ∀ n i, itD n d (90 + i) = d (90 + i)
  | 0, _ => rfl
  | n + 1, i => by rw [itD_s, dayF_k (itD_wf n w) (Or.inr (by omega)) (by omega) (by omega), it90 w n i]
end O15
