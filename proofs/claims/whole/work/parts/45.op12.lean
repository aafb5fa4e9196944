section O12
variable {l : Launch} {g : Gv}
/-- no heir's dust lies on SILL s -/
abbrev bareP (e : Nat → Int32) (s : Nat) : Prop := setF (fun h => hf e h 4 = nI s) (hn e) = 0
set_option maxRecDepth 100000 in
theorem lp_bare {Q : Option Value → Mem → Prop} (n : Int32) (m : Mem) (e : Nat → Int32) (w : WF e) (hT : TR 18 m e) (hq : Q (some (.int (setF (bareP e) 16))) m) : ∀ (k s : Nat), s + k = 16 → J l g 6 mX11_bare 37 [some (rf g 0), some (.int n), some (.int (setF (bareP e) s)), some (.int (nI s))] [] m Q := by
  intro k
  induction k with
  | zero =>
    intro s e1
    have e1 : s = 16 := by omega
    subst e1
    refine j_iload3 38 dX11_bare_37 rfl ?_
    refine j_bipush 40 (v := 16) dX11_bare_38 rfl rfl ?_
    refine j_cmp_ge 66 43 dX11_bare_40 rfl rfl (fun h40 => ?_) (fun h40 => absurd (by decide) h40)
    refine j_iload2 67 dX11_bare_66 rfl ?_
    refine j_iret dX11_bare_67 rfl ?_
    exact hq
  | succ k ih =>
    intro s e1
    have e2 : nI s + 1 = nI (s + 1) := nI_1 s
    refine j_iload3 38 dX11_bare_37 rfl ?_
    refine j_bipush 40 (v := 16) dX11_bare_38 rfl rfl ?_
    refine j_cmp_ge 66 43 dX11_bare_40 rfl rfl (fun h40 => absurd h40 (show ¬ (16 : Int32) ≤ nI s from nI_ge (a := s) (b := 16) (by omega) (by decide))) (fun h40 => ?_)
    refine j_aload0 44 dX11_bare_43 rfl ?_
    refine j_getR 47 dX11_bare_44 rfl fl_X11_39 rfl rfl ?_
    refine j_iload3 48 dX11_bare_47 rfl ?_
    refine j_vi1f 51 dX11_bare_48 rfl rfl cl_X11_96 rfl rfl (c_dustAt_18 m e w _ (nb_m1 ⟨s, (show s < 16 by omega), rfl⟩ (by decide)) hT) ?_
    refine j_if_ne 60 54 dX11_bare_51 rfl rfl (fun h51 => ?_) (fun h51 => ?_)
    · refine j_iinc3 63 (1) dX11_bare_60 rfl rfl rfl rfl ?_
      refine j_goto 37 dX11_bare_63 rfl ?_
      rw [e2]
      first | rw [setF_t (P := bareP e) (n := s) (show bareP e s from h51)] | rw [setF_f (P := bareP e) (n := s) (show ¬ bareP e s from h51)]
      exact ih (s + 1) (by omega)
    · refine j_iload2 55 dX11_bare_54 rfl ?_
      refine j_iconst 56 (v := 1) dX11_bare_55 rfl rfl ?_
      refine j_iload3 57 dX11_bare_56 rfl ?_
      refine j_ishl 58 dX11_bare_57 rfl ?_
      refine j_ior 59 dX11_bare_58 rfl ?_
      refine j_istore2 60 dX11_bare_59 rfl rfl rfl ?_
      refine j_iinc3 63 (1) dX11_bare_60 rfl rfl rfl rfl ?_
      refine j_goto 37 dX11_bare_63 rfl ?_
      rw [e2]
      first | rw [setF_t (P := bareP e) (n := s) (show bareP e s from h51)] | rw [setF_f (P := bareP e) (n := s) (show ¬ bareP e s from h51)]
      exact ih (s + 1) (by omega)
set_option maxRecDepth 100000 in
theorem lm_bare {Q : Option Value → Mem → Prop} (n : Int32) (m : Mem) (w : WF (m 69)) (hq : J l g 7 mX12_bare 61 [some (rf g 68), some (.int n), some (.int (setF (bareP (m 69)) 16)), some (.int (nI 16))] [] m Q) : ∀ (k s : Nat), s + k = 16 → J l g 7 mX12_bare 31 [some (rf g 68), some (.int n), some (.int (setF (bareP (m 69)) s)), some (.int (nI s))] [] m Q := by
  intro k
  induction k with
  | zero =>
    intro s e1
    have e1 : s = 16 := by omega
    subst e1
    refine j_iload3 32 dX12_bare_31 rfl ?_
    refine j_bipush 34 (v := 16) dX12_bare_32 rfl rfl ?_
    refine j_cmp_ge 61 37 dX12_bare_34 rfl rfl (fun h34 => ?_) (fun h34 => absurd (by decide) h34)
    exact hq
  | succ k ih =>
    intro s e1
    have e2 : nI s + 1 = nI (s + 1) := nI_1 s
    refine j_iload3 32 dX12_bare_31 rfl ?_
    refine j_bipush 34 (v := 16) dX12_bare_32 rfl rfl ?_
    refine j_cmp_ge 61 37 dX12_bare_34 rfl rfl (fun h34 => absurd h34 (show ¬ (16 : Int32) ≤ nI s from nI_ge (a := s) (b := 16) (by omega) (by decide))) (fun h34 => ?_)
    refine j_iload2 38 dX12_bare_37 rfl ?_
    refine j_aload0 39 dX12_bare_38 rfl ?_
    refine j_iload3 40 dX12_bare_39 rfl ?_
    refine j_vi1f 43 dX12_bare_40 rfl rfl cl_X12_184 rfl rfl (c_lying m _ w) ?_
    refine j_if_ne 52 46 dX12_bare_43 rfl rfl (fun h43 => ?_) (fun h43 => ?_)
    · refine j_iconst 53 (v := 0) dX12_bare_52 rfl rfl ?_
      refine j_ior 54 dX12_bare_53 rfl ?_
      refine j_istore2 55 dX12_bare_54 rfl rfl rfl ?_
      refine j_iinc3 58 (1) dX12_bare_55 rfl rfl rfl rfl ?_
      refine j_goto 31 dX12_bare_58 rfl ?_
      rw [e2]
      first | rw [setF_t (P := bareP (m 69)) (n := s) (show bareP (m 69) s from h43)] | rw [setF_f0 (P := bareP (m 69)) (n := s) (show ¬ bareP (m 69) s from h43)]
      exact ih (s + 1) (by omega)
    · refine j_iconst 47 (v := 1) dX12_bare_46 rfl rfl ?_
      refine j_iload3 48 dX12_bare_47 rfl ?_
      refine j_ishl 49 dX12_bare_48 rfl ?_
      refine j_goto 53 dX12_bare_49 rfl ?_
      refine j_ior 54 dX12_bare_53 rfl ?_
      refine j_istore2 55 dX12_bare_54 rfl rfl rfl ?_
      refine j_iinc3 58 (1) dX12_bare_55 rfl rfl rfl rfl ?_
      refine j_goto 31 dX12_bare_58 rfl ?_
      rw [e2]
      first | rw [setF_t (P := bareP (m 69)) (n := s) (show bareP (m 69) s from h43)] | rw [setF_f0 (P := bareP (m 69)) (n := s) (show ¬ bareP (m 69) s from h43)]
      exact ih (s + 1) (by omega)
set_option maxRecDepth 100000 in
theorem e_bare (m : Mem) (n : Int32) (c : ¬ (0 ≤ n ∧ n ≤ 60)) : JM l g 2 mX11_bare [rf g 0, .int n] m (RF (some (.int (-1000000001))) (errC 1 m)) := by
  refine JM_of (ls := [some (rf g 0), some (.int n), none, none]) pn_X11 rfl rfl ?_
  refine j_iload1 1 dX11_bare_0 rfl ?_
  refine j_iconst 2 (v := 0) dX11_bare_1 rfl rfl ?_
  refine j_bipush 4 (v := 60) dX11_bare_2 rfl rfl ?_
  refine j_st3f 7 dX11_bare_4 rfl rfl cl_X11_86 rfl (c_within m n 0 60) ?_
  refine j_if_ne_bz 17 10 dX11_bare_7 rfl rfl (fun h7 => absurd h7 c) (fun h7 => ?_)
  refine j_aload0 11 dX11_bare_10 rfl ?_
  refine j_ldc 13 dX11_bare_11 rfl kc_X11_81 ?_
  refine j_vi1f 16 dX11_bare_13 rfl rfl cl_X11_82 rfl rfl (c_err1 m) ?_
  refine j_iret dX11_bare_16 rfl ?_
  exact ⟨rfl, rfl⟩
set_option maxRecDepth 100000 in
theorem f_bare (m : Mem) (n : Int32) (c : ¬ (0 ≤ n ∧ n ≤ 60)) : JM l g 2 mX12_bare [rf g 68, .int n] m (RF (some (.int (-1000000001))) (errM 1 m)) := by
  refine JM_of (ls := [some (rf g 68), some (.int n), none, none]) pn_X12 rfl rfl ?_
  refine j_iload1 1 dX12_bare_0 rfl ?_
  refine j_i2l 2 dX12_bare_1 rfl ?_
  refine j_lconst 3 (v := 0) dX12_bare_2 rfl rfl ?_
  refine j_ldc2 6 dX12_bare_3 rfl kl_X12_212 ?_
  refine j_st3f 9 dX12_bare_6 rfl rfl cl_X12_47 rfl (c_in m n 0 60) ?_
  refine j_if_ne_bz 18 12 dX12_bare_9 rfl rfl (fun h9 => absurd h9 c) (fun h9 => ?_)
  refine j_aload0 13 dX12_bare_12 rfl ?_
  refine j_iconst 14 (v := 1) dX12_bare_13 rfl rfl ?_
  refine j_vi1f 17 dX12_bare_14 rfl rfl cl_X12_126 rfl rfl (c_finds1 m) ?_
  refine j_iret dX12_bare_17 rfl ?_
  exact ⟨rfl, rfl⟩
set_option maxRecDepth 100000 in
theorem o_bare (m : Mem) (d : Nat → Int32) (w : WF d) (hT : TR 9 m d) (hP : PR 36 m d) (n : Nat) (hn : n ≤ 60) : JM l g 6 mX11_bare [rf g 0, .int (nI n)] m (RS (some (.int (setF (bareP (itD n d)) 16))) (Sm thS m)) := by
  refine JM_of (ls := [some (rf g 0), some (.int (nI n)), none, none]) pn_X11 rfl rfl ?_
  refine j_iload1 1 dX11_bare_0 rfl ?_
  refine j_iconst 2 (v := 0) dX11_bare_1 rfl rfl ?_
  refine j_bipush 4 (v := 60) dX11_bare_2 rfl rfl ?_
  refine j_st3f 7 dX11_bare_4 rfl rfl cl_X11_86 rfl (c_within m _ 0 60) ?_
  refine j_if_ne_bz 17 10 dX11_bare_7 rfl rfl (fun h7 => ?_) (fun h7 => absurd ((rngN 60 (by decide)).mpr ⟨n, hn, rfl⟩) h7)
  refine j_aload0 18 dX11_bare_17 rfl ?_
  refine j_vi0w 21 dX11_bare_18 rfl rfl cl_X11_217 rfl rfl (c_think m) (fun m18 q18 => ?_)
  obtain ⟨l0, l1⟩ := LR2 hP (q18.2 39 (by decide)) (q18.2 40 (by decide)) (q18.2 43 (by decide)) (q18.2 44 (by decide))
  refine j_aload0 22 dX11_bare_21 rfl ?_
  refine j_getR 25 dX11_bare_22 rfl fl_X11_39 rfl rfl ?_
  refine j_iload1 26 dX11_bare_25 rfl ?_
  refine j_aload0 27 dX11_bare_26 rfl ?_
  refine j_getR 30 dX11_bare_27 rfl fl_X11_48 rfl rfl ?_
  refine j_vi2w 33 dX11_bare_30 rfl rfl cl_X11_205 rfl rfl (c_goDays_18 m18 d n (by omega) w (q18.1 d hT) l0 l1) (fun m30 q30 => ?_)
  refine j_iconst 34 (v := 0) dX11_bare_33 rfl rfl ?_
  refine j_istore2 35 dX11_bare_34 rfl rfl rfl ?_
  refine j_iconst 36 (v := 0) dX11_bare_35 rfl rfl ?_
  refine j_istore3 37 dX11_bare_36 rfl rfl rfl ?_
  exact lp_bare (nI n) m30 (itD n d) (itD_wf n w) q30.1 ⟨rfl, (q18.2.mono (by decide)).trans (q30.2.mono (by decide))⟩ 16 0 rfl
set_option maxRecDepth 100000 in
theorem p_bare (m : Mem) (w : WF (m 69)) (hd : nb (m 69 1) 10000) (n : Nat) (hn : n ≤ 60) : JM l g 7 mX12_bare [rf g 68, .int (nI n)] m (RS (some (.int (setF (bareP (itD n (m 69))) 16))) (MK m)) := by
  refine JM_of (ls := [some (rf g 68), some (.int (nI n)), none, none]) pn_X12 rfl rfl ?_
  have e69 : upR m 71 (rst (m 69) (m 71)) 69 = m 69 := upR_n (by decide)
  refine j_iload1 1 dX12_bare_0 rfl ?_
  refine j_i2l 2 dX12_bare_1 rfl ?_
  refine j_lconst 3 (v := 0) dX12_bare_2 rfl rfl ?_
  refine j_ldc2 6 dX12_bare_3 rfl kl_X12_212 ?_
  refine j_st3f 9 dX12_bare_6 rfl rfl cl_X12_47 rfl (c_in m _ 0 60) ?_
  refine j_if_ne_bz 18 12 dX12_bare_9 rfl rfl (fun h9 => ?_) (fun h9 => absurd ((rngN 60 (by decide)).mpr ⟨n, hn, rfl⟩) h9)
  refine j_aload0 19 dX12_bare_18 rfl ?_
  refine j_vi0v 22 dX12_bare_19 rfl rfl cl_X12_226 rfl rfl (c_keepAside m) ?_
  refine j_aload0 23 dX12_bare_22 rfl ?_
  refine j_iload1 24 dX12_bare_23 rfl ?_
  refine j_vi1w 27 dX12_bare_24 rfl rfl cl_X12_214 rfl rfl (c_daysGo _ n hn (by rw [e69]; exact w) (by rw [e69]; exact nb_up hd (by decide))) (fun m24 q24 => ?_)
  refine j_iconst 28 (v := 0) dX12_bare_27 rfl rfl ?_
  refine j_istore2 29 dX12_bare_28 rfl rfl rfl ?_
  refine j_iconst 30 (v := 0) dX12_bare_29 rfl rfl ?_
  refine j_istore3 31 dX12_bare_30 rfl rfl rfl ?_
  have hm : m24 69 = itD n (m 69) := by rw [q24.1, e69]
  have hmk : MK m (upR m24 69 (rst (m24 71) (m24 69))) := ⟨by rw [upR_s, q24.2 71 (by decide), upR_s, hm, rst_it w, rst_rst], ((Sm.rf.row (by decide)).trans (q24.2.mono (by decide))).row (by decide)⟩
  refine lm_bare (nI n) m24 (by rw [hm]; exact itD_wf n w) ?_ 16 0 rfl
  refine j_aload0 62 dX12_bare_61 rfl ?_
  refine j_vi0v 65 dX12_bare_62 rfl rfl cl_X12_223 rfl rfl (c_putBack _) ?_
  refine j_iload2 66 dX12_bare_65 rfl ?_
  refine j_iret dX12_bare_66 rfl ?_
  exact ⟨by rw [hm], hmk⟩
theorem op_bare {m : Mem} (I : INV m) (n : Int32) : OPr l g mX11_bare mX12_bare [.int n] m := by
  obtain ⟨⟨wf, hd, hT, hP⟩, -⟩ := id I
  by_cases c : 0 ≤ n ∧ n ≤ 60
  · obtain ⟨i, hi, rfl⟩ := (rngN 60 (by decide)).mp c
    refine OPr_ask (d2 := 7) I (by decide) (by decide) (o_bare m (m 69) wf hT hP i hi) (fun m' s => ?_)
    have e := dn s
    have hq := p_bare (l := l) (g := g) m' (by rw [e]; exact wf) (by rw [e]; exact hd) i hi
    rw [e] at hq
    exact hq
  · exact OPr_err I (by decide) (by decide) (by decide) (e_bare m n c) (f_bare _ n c)
end O12
