/-! loose -/
def vN (z : Int32) : Nat := z.toBitVec.toNat / 2 ^ 8
theorem vN_lt (z : Int32) : vN z < 2 ^ 24 := by
  have h := z.toBitVec.isLt
  show z.toBitVec.toNat / 2 ^ 8 < 2 ^ 24
  omega
theorem of_tn {x : Int32} {k : Nat} (hk : k < 2 ^ 32) (h : x.toBitVec.toNat = k) : x = nI k := by
  apply Int32.toBitVec_inj.mp
  apply BitVec.eq_of_toNat_eq
  rw [h, pk_tn hk]
theorem ush_v (z : Int32) : (z.toUInt32 >>> ((8 : Int32).toUInt32 &&& Int32.toUInt32 31)).toInt32 = nI (vN z) := of_tn (Nat.lt_trans (vN_lt z) (by decide)) (pk_ushr z 8 8 (by decide))
/-- the draw by words that nothing unfolds -/
def LH (Z : Int32 → Int32) (V : Int32 → Nat) : Prop := (∀ z, z * 1103515245 + 12345 = Z z) ∧ (∀ z : Int32, (z.toUInt32 >>> ((8 : Int32).toUInt32 &&& Int32.toUInt32 31)).toInt32 = nI (V z)) ∧ ∀ z, V z < 2 ^ 24
theorem LH_ex : ∃ Z V, LH Z V := ⟨fun z => z * 1103515245 + 12345, vN, fun _ => rfl, ush_v, vN_lt⟩
theorem v6 {V : Int32 → Nat} (hV : ∀ z, V z < 2 ^ 24) (z : Int32) : irm (nI (V z)) (nI 6) = nI (V z % 6) := irm_nI (by have := hV z; omega) (by decide) (by decide)
theorem v4 {V : Int32 → Nat} (hV : ∀ z, V z < 2 ^ 24) (z : Int32) : irm (nI (V z)) (nI 4) = nI (V z % 4) := irm_nI (by have := hV z; omega) (by decide) (by decide)
theorem vd4 {V : Int32 → Nat} (hV : ∀ z, V z < 2 ^ 24) (z : Int32) : nI (V z) / nI 4 = nI (V z / 4) := pk_div (by have := hV z; omega) (by decide) (by decide)
theorem vd64 {V : Int32 → Nat} (hV : ∀ z, V z < 2 ^ 24) (z : Int32) : nI (V z) / nI 64 = nI (V z / 64) := pk_div (by have := hV z; omega) (by decide) (by decide)
theorem v4m {V : Int32 → Nat} (hV : ∀ z, V z < 2 ^ 24) (z : Int32) : irm (nI (V z / 4)) (nI 16) = nI (V z / 4 % 16) := irm_nI (by have := hV z; omega) (by decide) (by decide)
theorem v64m {V : Int32 → Nat} (hV : ∀ z, V z < 2 ^ 24) (z : Int32) : irm (nI (V z / 64)) (nI 16) = nI (V z / 64 % 16) := irm_nI (by have := hV z; omega) (by decide) (by decide)
def ls1 (Z : Int32 → Int32) (V : Int32 → Nat) (d : Nat → Int32) : Nat → Int32 := upd1 (upd1 d 2 (nI (V (Z (d 5)) % 6))) 5 (Z (Z (d 5)))
def lsE (Z : Int32 → Int32) (V : Int32 → Nat) (d : Nat → Int32) : Nat → Int32 := if nI (V (Z (Z (d 5))) % 4) = 0 then upd1 (ls1 Z V d) (24 + V (Z (Z (d 5))) / 4 % 16) (nI (V (Z (Z (d 5))) / 64 % 16)) else ls1 Z V d
def lsN (Z : Int32 → Int32) (V : Int32 → Nat) : Nat → (Nat → Int32) → (Nat → Int32)
  | 0, d => d
  | n + 1, d => lsN Z V n (dayF (lsE Z V d))
section LS
variable {Z : Int32 → Int32} {V : Int32 → Nat}
theorem m16 (x : Nat) : x % 16 < 16 := Nat.mod_lt _ (by decide)
theorem WF_ls1 {d : Nat → Int32} (w : WF d) : WF (ls1 Z V d) := WF_low (WF_low w (Or.inr (Or.inr (Or.inl ⟨rfl, ⟨_, by have := Nat.mod_lt (V (Z (d 5))) (show 6 > 0 by decide); omega, rfl⟩⟩)))) (Or.inr (Or.inr (Or.inr (Or.inl rfl))))
theorem WF_lsE {d : Nat → Int32} (w : WF d) : WF (lsE Z V d) := by
  unfold lsE
  by_cases q : nI (V (Z (Z (d 5))) % 4) = 0
  · rw [if_pos q]; exact WF_to' (WF_ls1 w) (m16 _) ⟨_, m16 _, rfl⟩
  · rw [if_neg q]; exact WF_ls1 w
theorem ls1_k {d : Nat → Int32} {k : Nat} (h2 : k ≠ 2) (h5 : k ≠ 5) : ls1 Z V d k = d k := by
  unfold ls1 upd1
  rw [if_neg h5, if_neg h2]
theorem lsE_k {d : Nat → Int32} {k : Nat} (h2 : k ≠ 2) (h5 : k ≠ 5) (h : k < 24 ∨ 40 ≤ k) : lsE Z V d k = d k := by
  have m1 := m16 (V (Z (Z (d 5))) / 4)
  unfold lsE
  by_cases q : nI (V (Z (Z (d 5))) % 4) = 0
  · rw [if_pos q]
    show (if k = 24 + V (Z (Z (d 5))) / 4 % 16 then _ else ls1 Z V d k) = d k
    rw [if_neg (by omega), ls1_k h2 h5]
  · rw [if_neg q]; exact ls1_k h2 h5
theorem lsN_wf : ∀ (n : Nat) {d : Nat → Int32}, WF d → WF (lsN Z V n d)
  | 0, _, w => w
  | n + 1, _, w => lsN_wf n (WF_day (WF_lsE w))
theorem lsN_s : ∀ (n : Nat) (d : Nat → Int32), lsN Z V (n + 1) d = dayF (lsE Z V (lsN Z V n d))
  | 0, _ => rfl
  | n + 1, d => lsN_s n (dayF (lsE Z V d))
theorem lsN_1 : ∀ (n : Nat) {d : Nat → Int32}, WF d → lsN Z V n d 1 = d 1 + nI n
  | 0, d, _ => by show d 1 = d 1 + nI 0; rw [nI_0]; exact (Int32.add_zero _).symm
  | n + 1, d, w => by
    show lsN Z V n (dayF (lsE Z V d)) 1 = _
    rw [lsN_1 n (WF_day (WF_lsE w)), dayF_1 (WF_lsE w), lsE_k (by decide) (by decide) (by decide), Int32.add_assoc]
    congr 1
    rw [show (1 : Int32) = nI 1 from rfl, nI_add]
    congr 1
    omega
theorem TR_ls1 {m : Mem} {d : Nat → Int32} {z1 z2 : Int32} (hT : TR 9 m d) : TR 9 (up2 (up2 (up2 m 36 6 z1) 9 10 (nI (V (Z (d 5)) % 6))) 36 6 z2) (ls1 Z V d) := by
  have t1 : TR 9 (up2 m 36 6 z1) d := TR_same hT (fun b b1 b2 => up2_r (by omega))
  have t2 := TR_sc (v := nI (V (Z (d 5)) % 6)) t1 (Or.inr (Or.inl ⟨rfl, rfl⟩))
  exact TR_d (TR_same t2 (fun b b1 b2 => up2_r (by omega))) (fun k h1 h2 => if_neg (by omega))
theorem PR_ls1 {m : Mem} {d : Nat → Int32} {z1 c : Int32} (hP : PR 36 m d) : PR 36 (up2 (up2 (up2 m 36 6 z1) 9 10 c) 36 6 (Z (Z (d 5)))) (ls1 Z V d) := by
  have t2 : PR 36 (up2 (up2 m 36 6 z1) 9 10 c) (upd1 d 5 z1) := PR_same (PR_z hP) (fun b hb => up2_r (by omega))
  refine PR_d (PR_z (v := Z (Z (d 5))) t2) (fun k hk => ?_)
  unfold ls1 upd1
  by_cases q : k = 5
  · rw [if_pos q, if_pos q]
  · rw [if_neg q, if_neg q, if_neg q, if_neg (by omega)]
end LS
def lsS : List Nat := [9, 11, 15, 16, 17, 36, 41, 45]
section O20
variable {l : Launch} {g : Gv} {Z : Int32 → Int32} {V : Int32 → Nat}
theorem c_draw2 (hL : LH Z V) (m : Mem) (z : Int32) (hz : m 36 6 = z) : JM l g 0 mX8_draw [rf g 36] m (RF (some (.int (nI (V (Z z))))) (up2 m 36 6 (Z z))) := by
  subst hz
  exact (c_draw m).mono (fun r m' q => ⟨q.1.trans (by rw [hL.1, hL.2.1]), q.2.trans (by rw [hL.1])⟩)
set_option maxRecDepth 100000 in
theorem c_drawn (hL : LH Z V) (m : Mem) (z : Int32) (hz : m 69 5 = z) : JM l g 0 mX12_drawn [rf g 68] m (RF (some (.int (nI (V (Z z))))) (up2 m 69 5 (Z z))) := by
  refine JM_of (ls := [some (rf g 68)]) pn_X12 rfl rfl ?_
  subst hz
  refine j_aload0 1 dX12_drawn_0 rfl ?_
  refine j_getR 4 dX12_drawn_1 rfl fl_X12_7 rfl rfl ?_
  refine j_iconst 5 (v := nI 5) dX12_drawn_4 rfl rfl ?_
  refine j_aload0 6 dX12_drawn_5 rfl ?_
  refine j_getR 9 dX12_drawn_6 rfl fl_X12_7 rfl rfl ?_
  refine j_iconst 10 (v := 5) dX12_drawn_9 rfl rfl ?_
  refine j_iald 11 5 rfl (by first | assumption | decide | omega) dX12_drawn_10 rfl rfl ?_
  refine j_ldc 13 dX12_drawn_11 rfl kc_X12_217 ?_
  refine j_imul 14 dX12_drawn_13 rfl ?_
  refine j_sipush 17 (v := 12345) dX12_drawn_14 rfl rfl ?_
  refine j_iadd 18 dX12_drawn_17 rfl ?_
  refine j_top (hL.1 _) ?_
  refine j_iast 19 5 rfl (by decide) dX12_drawn_18 rfl rfl ?_
  refine j_aload0 20 dX12_drawn_19 rfl ?_
  refine j_getR 23 dX12_drawn_20 rfl fl_X12_7 rfl rfl ?_
  refine j_iconst 24 (v := 5) dX12_drawn_23 rfl rfl ?_
  refine j_iald 25 5 rfl (by first | assumption | decide | omega) dX12_drawn_24 rfl rfl ?_
  refine j_top up2_s ?_
  refine j_bipush 27 (v := 8) dX12_drawn_25 rfl rfl ?_
  refine j_iushr 28 dX12_drawn_27 rfl ?_
  refine j_top (hL.2.1 (Z (m 69 5))) ?_
  refine j_iret dX12_drawn_28 rfl ?_
  exact ⟨rfl, rfl⟩
set_option maxRecDepth 100000 in
theorem lp_loose {Q : Option Value → Mem → Prop} (hL : LH Z V) (d0 : Nat → Int32) (w0 : WF d0) (n : Nat) (hn40 : n ≤ 40) (m0 : Mem) (kk : ∀ m', TR 9 m' (lsN Z V n d0) → PR 36 m' (lsN Z V n d0) → Sm lsS m0 m' → Q (some (.int (lsN Z V n d0 4))) m') : ∀ (k i : Nat) (m : Mem) (o : Option Value), i + k = n → TR 9 m (lsN Z V i d0) → PR 36 m (lsN Z V i d0) → Sm lsS m0 m → J l g 6 mX11_loose 41 [some (rf g 0), some (.int (nI n)), some (.int (nI i)), o] [] m Q := by
  intro k
  induction k with
  | zero =>
    intro i m o e hT hP hs
    have e : i = n := by omega
    subst e
    refine j_iload2 42 dX11_loose_41 rfl ?_
    refine j_iload1 43 dX11_loose_42 rfl ?_
    refine j_cmp_ge 115 46 dX11_loose_43 rfl rfl (fun h43 => ?_) (fun h43 => absurd (Int32.le_refl _) h43)
    refine j_aload0 116 dX11_loose_115 rfl ?_
    refine j_getR 119 dX11_loose_116 rfl fl_X11_35 rfl rfl ?_
    refine j_getI 122 dX11_loose_119 rfl fl_X11_110 rfl rfl ?_
    refine j_iret dX11_loose_122 rfl ?_
    rw [show m 9 12 = lsN Z V i d0 4 from hT.2.2.2.1]; exact kk m hT hP hs
  | succ k ih =>
    intro i m o e hT hP hs
    have e2 : nI i + 1 = nI (i + 1) := nI_1 i
    have w : WF (lsN Z V i d0) := lsN_wf i w0
    have wE : WF (lsE Z V (lsN Z V i d0)) := WF_lsE w
    have z5 : m 36 6 = lsN Z V i d0 5 := hP.2.2.1
    have mx := m16 (V (Z (Z (lsN Z V i d0 5))) / 4)
    have tail : ∀ m1, TR 9 m1 (lsE Z V (lsN Z V i d0)) → PR 36 m1 (lsE Z V (lsN Z V i d0)) → Sm lsS m0 m1 → J l g 6 mX11_loose 98 [some (rf g 0), some (.int (nI n)), some (.int (nI i)), some (.int (nI (V (Z (Z (lsN Z V i d0 5))))))] [] m1 Q := by
      intro m1 hT1 hP1 s1
      refine j_aload0 99 dX11_loose_98 rfl ?_
      refine j_getR 102 dX11_loose_99 rfl fl_X11_35 rfl rfl ?_
      refine j_aload0 103 dX11_loose_102 rfl ?_
      refine j_getR 106 dX11_loose_103 rfl fl_X11_48 rfl rfl ?_
      refine j_vi1w 109 dX11_loose_106 rfl rfl cl_X11_213 rfl rfl (c_goDay_9 m1 (lsE Z V (lsN Z V i d0)) wE hT1 hP1.2.2.2.2.2.1 hP1.2.2.2.2.2.2) (fun m106 q106 => ?_)
      refine j_iinc2 112 (1) dX11_loose_109 rfl rfl rfl rfl ?_
      refine j_goto 41 dX11_loose_112 rfl ?_
      rw [e2]
      refine ih (i + 1) m106 _ (by omega) (by rw [lsN_s]; exact q106.1) ?_ (s1.trans (q106.2.mono (by decide)))
      rw [lsN_s]
      exact PR_same (PR_d hP1 (fun k hk => dayF_k wE (by omega) (by omega) (by omega))) (fun b hb => q106.2 b (by simp; omega))
    refine j_iload2 42 dX11_loose_41 rfl ?_
    refine j_iload1 43 dX11_loose_42 rfl ?_
    refine j_cmp_ge 115 46 dX11_loose_43 rfl rfl (fun h43 => absurd h43 (nI_ge (a := i) (b := n) (by omega) (by omega))) (fun h43 => ?_)
    refine j_aload0 47 dX11_loose_46 rfl ?_
    refine j_getR 50 dX11_loose_47 rfl fl_X11_35 rfl rfl ?_
    refine j_aload0 51 dX11_loose_50 rfl ?_
    refine j_getR 54 dX11_loose_51 rfl fl_X11_48 rfl rfl ?_
    refine j_vi0f 57 dX11_loose_54 rfl rfl cl_X11_209 rfl rfl (c_draw2 hL m (lsN Z V i d0 5) z5) ?_
    refine j_bipush 59 (v := nI 6) dX11_loose_57 rfl rfl ?_
    refine j_irm 60 dX11_loose_59 rfl (by decide) ?_
    refine j_top (v6 hL.2.2 _) ?_
    refine j_putI 63 dX11_loose_60 rfl fp_X11_102 rfl rfl ?_
    refine j_aload0 64 dX11_loose_63 rfl ?_
    refine j_getR 67 dX11_loose_64 rfl fl_X11_48 rfl rfl ?_
    refine j_vi0f 70 dX11_loose_67 rfl rfl cl_X11_209 rfl rfl (c_draw2 hL _ (Z (lsN Z V i d0 5)) (by rw [up2_a (by decide), up2_s])) ?_
    refine j_istore3 71 dX11_loose_70 rfl rfl rfl ?_
    refine j_iload3 72 dX11_loose_71 rfl ?_
    refine j_iconst 73 (v := nI 4) dX11_loose_72 rfl rfl ?_
    refine j_irm 74 dX11_loose_73 rfl (by decide) ?_
    refine j_top (v4 hL.2.2 _) ?_
    refine j_if_ne 98 77 dX11_loose_74 rfl rfl (fun h74 => ?_) (fun h74 => ?_)
    · have t1 := TR_ls1 (Z := Z) (V := V) (z1 := Z (lsN Z V i d0 5)) (z2 := Z (Z (lsN Z V i d0 5))) hT
      have p1 := PR_ls1 (Z := Z) (V := V) (z1 := Z (lsN Z V i d0 5)) (c := nI (V (Z (lsN Z V i d0 5)) % 6)) hP
      first | exact tail _ (by unfold lsE; rw [if_pos h74]; exact TR_to t1 mx) (by unfold lsE; rw [if_pos h74]; exact PR_d (PR_same p1 (fun b hb => up2_r (by omega))) (fun k hk => if_neg (by omega))) ((((hs.up (by decide)).up (by decide)).up (by decide)).up (by decide)) | exact tail _ (by unfold lsE; rw [if_neg h74]; exact t1) (by unfold lsE; rw [if_neg h74]; exact p1) (((hs.up (by decide)).up (by decide)).up (by decide))
    · refine j_aload0 78 dX11_loose_77 rfl ?_
      refine j_getR 81 dX11_loose_78 rfl fl_X11_35 rfl rfl ?_
      refine j_getR 84 dX11_loose_81 rfl fl_X11_93 rfl rfl ?_
      refine j_iload3 85 dX11_loose_84 rfl ?_
      refine j_iconst 86 (v := nI 4) dX11_loose_85 rfl rfl ?_
      refine j_idiv 87 dX11_loose_86 rfl (by decide) ?_
      refine j_top (vd4 hL.2.2 _) ?_
      refine j_bipush 89 (v := nI 16) dX11_loose_87 rfl rfl ?_
      refine j_irm 90 dX11_loose_89 rfl (by decide) ?_
      refine j_top (v4m hL.2.2 _) ?_
      refine j_iload3 91 dX11_loose_90 rfl ?_
      refine j_bipush 93 (v := nI 64) dX11_loose_91 rfl rfl ?_
      refine j_idiv 94 dX11_loose_93 rfl (by decide) ?_
      refine j_top (vd64 hL.2.2 _) ?_
      refine j_bipush 96 (v := nI 16) dX11_loose_94 rfl rfl ?_
      refine j_irm 97 dX11_loose_96 rfl (by decide) ?_
      refine j_top (v64m hL.2.2 _) ?_
      refine j_iast 98 _ rfl mx dX11_loose_97 rfl rfl ?_
      have t1 := TR_ls1 (Z := Z) (V := V) (z1 := Z (lsN Z V i d0 5)) (z2 := Z (Z (lsN Z V i d0 5))) hT
      have p1 := PR_ls1 (Z := Z) (V := V) (z1 := Z (lsN Z V i d0 5)) (c := nI (V (Z (lsN Z V i d0 5)) % 6)) hP
      first | exact tail _ (by unfold lsE; rw [if_pos h74]; exact TR_to t1 mx) (by unfold lsE; rw [if_pos h74]; exact PR_d (PR_same p1 (fun b hb => up2_r (by omega))) (fun k hk => if_neg (by omega))) ((((hs.up (by decide)).up (by decide)).up (by decide)).up (by decide)) | exact tail _ (by unfold lsE; rw [if_neg h74]; exact t1) (by unfold lsE; rw [if_neg h74]; exact p1) (((hs.up (by decide)).up (by decide)).up (by decide))
set_option maxRecDepth 100000 in
theorem lm_loose {Q : Option Value → Mem → Prop} (hL : LH Z V) (d0 : Nat → Int32) (w0 : WF d0) (hd0 : nb (d0 1) 10000) (n : Nat) (hn40 : n ≤ 40) (m0 : Mem) (kk : ∀ m', m' 69 = lsN Z V n d0 → Sm [69, 73, 75] m0 m' → Q (some (.int (lsN Z V n d0 4))) m') : ∀ (k i : Nat) (m : Mem) (o : Option Value), i + k = n → m 69 = lsN Z V i d0 → Sm [69, 73, 75] m0 m → J l g 6 mX12_loose 40 [some (rf g 68), some (.int (nI n)), some (.int (nI i)), o] [] m Q := by
  intro k
  induction k with
  | zero =>
    intro i m o e hm hs
    have e : i = n := by omega
    subst e
    refine j_iload2 41 dX12_loose_40 rfl ?_
    refine j_iload1 42 dX12_loose_41 rfl ?_
    refine j_cmp_ge 100 45 dX12_loose_42 rfl rfl (fun h42 => ?_) (fun h42 => absurd (Int32.le_refl _) h42)
    refine j_aload0 101 dX12_loose_100 rfl ?_
    refine j_getR 104 dX12_loose_101 rfl fl_X12_7 rfl rfl ?_
    refine j_iconst 105 (v := 4) dX12_loose_104 rfl rfl ?_
    refine j_iald 106 4 rfl (by first | assumption | decide | omega) dX12_loose_105 rfl rfl ?_
    refine j_iret dX12_loose_106 rfl ?_
    rw [show m 69 4 = lsN Z V i d0 4 by rw [hm]]; exact kk m hm hs
  | succ k ih =>
    intro i m o e hm hs
    have e2 : nI i + 1 = nI (i + 1) := nI_1 i
    have w : WF (lsN Z V i d0) := lsN_wf i w0
    have wE : WF (lsE Z V (lsN Z V i d0)) := WF_lsE w
    have z5 : m 69 5 = lsN Z V i d0 5 := by rw [hm]
    have mx := m16 (V (Z (Z (lsN Z V i d0 5))) / 4)
    have mx2 : 24 + V (Z (Z (lsN Z V i d0 5))) / 4 % 16 < 260 := by omega
    have nd : nb (lsE Z V (lsN Z V i d0) 1) 19999 := by
      rw [lsE_k (by decide) (by decide) (by decide), lsN_1 i w0]
      exact nb_up (nb_add hd0 ⟨i, Nat.lt_succ_self i, rfl⟩) (by omega)
    have tail : ∀ m1, m1 69 = lsE Z V (lsN Z V i d0) → Sm [69, 73, 75] m0 m1 → J l g 6 mX12_loose 90 [some (rf g 68), some (.int (nI n)), some (.int (nI i)), some (.int (nI (V (Z (Z (lsN Z V i d0 5))))))] [] m1 Q := by
      intro m1 r1 s1
      refine j_aload0 91 dX12_loose_90 rfl ?_
      refine j_vi0w 94 dX12_loose_91 rfl rfl cl_X12_171 rfl rfl (c_mday m1 (by rw [r1]; exact wE) (by rw [r1]; exact nd)) (fun m91 q91 => ?_)
      refine j_iinc2 97 (1) dX12_loose_94 rfl rfl rfl rfl ?_
      refine j_goto 40 dX12_loose_97 rfl ?_
      rw [e2]
      exact ih (i + 1) m91 _ (by omega) (by rw [lsN_s, q91.1, r1]) (s1.trans q91.2)
    have r1 : ∀ (z1 : Int32), up2 (up2 (up2 m 69 5 z1) 69 2 (nI (V (Z (lsN Z V i d0 5)) % 6))) 69 5 (Z (Z (lsN Z V i d0 5))) 69 = ls1 Z V (lsN Z V i d0) := fun z1 => by
      rw [up2_row69, up2_row69, up2_row69, hm]
      funext k
      unfold ls1 upd1
      by_cases q : k = 5
      · rw [if_pos q, if_pos q]
      · rw [if_neg q, if_neg q]
        show (if k = 2 then _ else (if k = 5 then z1 else lsN Z V i d0 k)) = _
        rw [if_neg q]
    refine j_iload2 41 dX12_loose_40 rfl ?_
    refine j_iload1 42 dX12_loose_41 rfl ?_
    refine j_cmp_ge 100 45 dX12_loose_42 rfl rfl (fun h42 => absurd h42 (nI_ge (a := i) (b := n) (by omega) (by omega))) (fun h42 => ?_)
    refine j_aload0 46 dX12_loose_45 rfl ?_
    refine j_getR 49 dX12_loose_46 rfl fl_X12_7 rfl rfl ?_
    refine j_iconst 50 (v := nI 2) dX12_loose_49 rfl rfl ?_
    refine j_aload0 51 dX12_loose_50 rfl ?_
    refine j_vi0f 54 dX12_loose_51 rfl rfl cl_X12_220 rfl rfl (c_drawn hL m (lsN Z V i d0 5) z5) ?_
    refine j_bipush 56 (v := nI 6) dX12_loose_54 rfl rfl ?_
    refine j_irm 57 dX12_loose_56 rfl (by decide) ?_
    refine j_top (v6 hL.2.2 _) ?_
    refine j_iast 58 2 rfl (by decide) dX12_loose_57 rfl rfl ?_
    refine j_aload0 59 dX12_loose_58 rfl ?_
    refine j_vi0f 62 dX12_loose_59 rfl rfl cl_X12_220 rfl rfl (c_drawn hL _ (Z (lsN Z V i d0 5)) (by rw [up2_k (by decide), up2_s])) ?_
    refine j_istore3 63 dX12_loose_62 rfl rfl rfl ?_
    refine j_iload3 64 dX12_loose_63 rfl ?_
    refine j_iconst 65 (v := nI 4) dX12_loose_64 rfl rfl ?_
    refine j_irm 66 dX12_loose_65 rfl (by decide) ?_
    refine j_top (v4 hL.2.2 _) ?_
    refine j_if_ne 90 69 dX12_loose_66 rfl rfl (fun h66 => ?_) (fun h66 => ?_)
    · first | exact tail _ (by unfold lsE; rw [if_pos h66, up2_row69, r1]) ((((hs.up (by decide)).up (by decide)).up (by decide)).up (by decide)) | exact tail _ (by unfold lsE; rw [if_neg h66, r1]) (((hs.up (by decide)).up (by decide)).up (by decide))
    · refine j_aload0 70 dX12_loose_69 rfl ?_
      refine j_getR 73 dX12_loose_70 rfl fl_X12_7 rfl rfl ?_
      refine j_bipush 75 (v := nI 24) dX12_loose_73 rfl rfl ?_
      refine j_iload3 76 dX12_loose_75 rfl ?_
      refine j_iconst 77 (v := nI 4) dX12_loose_76 rfl rfl ?_
      refine j_idiv 78 dX12_loose_77 rfl (by decide) ?_
      refine j_top (vd4 hL.2.2 _) ?_
      refine j_bipush 80 (v := nI 16) dX12_loose_78 rfl rfl ?_
      refine j_irm 81 dX12_loose_80 rfl (by decide) ?_
      refine j_top (v4m hL.2.2 _) ?_
      refine j_iaddN 82 dX12_loose_81 rfl ?_
      refine j_iload3 83 dX12_loose_82 rfl ?_
      refine j_bipush 85 (v := nI 64) dX12_loose_83 rfl rfl ?_
      refine j_idiv 86 dX12_loose_85 rfl (by decide) ?_
      refine j_top (vd64 hL.2.2 _) ?_
      refine j_bipush 88 (v := nI 16) dX12_loose_86 rfl rfl ?_
      refine j_irm 89 dX12_loose_88 rfl (by decide) ?_
      refine j_top (v64m hL.2.2 _) ?_
      refine j_iast 90 _ rfl mx2 dX12_loose_89 rfl rfl ?_
      first | exact tail _ (by unfold lsE; rw [if_pos h66, up2_row69, r1]) ((((hs.up (by decide)).up (by decide)).up (by decide)).up (by decide)) | exact tail _ (by unfold lsE; rw [if_neg h66, r1]) (((hs.up (by decide)).up (by decide)).up (by decide))
set_option maxRecDepth 100000 in
theorem e_loose (m : Mem) (n : Int32) (c : ¬ (1 ≤ n ∧ n ≤ 40)) : JM l g 2 mX11_loose [rf g 0, .int n] m (RF (some (.int (-1000000001))) (errC 1 m)) := by
  refine JM_of (ls := [some (rf g 0), some (.int n), none, none]) pn_X11 rfl rfl ?_
  refine j_iload1 1 dX11_loose_0 rfl ?_
  refine j_iconst 2 (v := 1) dX11_loose_1 rfl rfl ?_
  refine j_bipush 4 (v := 40) dX11_loose_2 rfl rfl ?_
  refine j_st3f 7 dX11_loose_4 rfl rfl cl_X11_86 rfl (c_within m n 1 40) ?_
  refine j_if_ne_bz 17 10 dX11_loose_7 rfl rfl (fun h7 => absurd h7 c) (fun h7 => ?_)
  refine j_aload0 11 dX11_loose_10 rfl ?_
  refine j_ldc 13 dX11_loose_11 rfl kc_X11_81 ?_
  refine j_vi1f 16 dX11_loose_13 rfl rfl cl_X11_82 rfl rfl (c_err1 m) ?_
  refine j_iret dX11_loose_16 rfl ?_
  exact ⟨rfl, rfl⟩
set_option maxRecDepth 100000 in
theorem f_loose (m : Mem) (n : Int32) (c : ¬ (1 ≤ n ∧ n ≤ 40)) : JM l g 2 mX12_loose [rf g 68, .int n] m (RF (some (.int (-1000000001))) (errM 1 m)) := by
  refine JM_of (ls := [some (rf g 68), some (.int n), none, none]) pn_X12 rfl rfl ?_
  refine j_iload1 1 dX12_loose_0 rfl ?_
  refine j_i2l 2 dX12_loose_1 rfl ?_
  refine j_lconst 3 (v := 1) dX12_loose_2 rfl rfl ?_
  refine j_ldc2 6 dX12_loose_3 rfl kl_X12_218 ?_
  refine j_st3f 9 dX12_loose_6 rfl rfl cl_X12_47 rfl (c_in m n 1 40) ?_
  refine j_if_ne_bz 18 12 dX12_loose_9 rfl rfl (fun h9 => absurd h9 c) (fun h9 => ?_)
  refine j_aload0 13 dX12_loose_12 rfl ?_
  refine j_iconst 14 (v := 1) dX12_loose_13 rfl rfl ?_
  refine j_vi1f 17 dX12_loose_14 rfl rfl cl_X12_126 rfl rfl (c_finds1 m) ?_
  refine j_iret dX12_loose_17 rfl ?_
  exact ⟨rfl, rfl⟩
set_option maxRecDepth 100000 in
theorem e_loose3 (m : Mem) (n : Int32) (c : 1 ≤ n ∧ n ≤ 40) (h : ¬ m 9 13 + n ≤ 9999) : JM l g 2 mX11_loose [rf g 0, .int n] m (RF (some (.int (-1000000003))) (errC 3 m)) := by
  refine JM_of (ls := [some (rf g 0), some (.int n), none, none]) pn_X11 rfl rfl ?_
  refine j_iload1 1 dX11_loose_0 rfl ?_
  refine j_iconst 2 (v := 1) dX11_loose_1 rfl rfl ?_
  refine j_bipush 4 (v := 40) dX11_loose_2 rfl rfl ?_
  refine j_st3f 7 dX11_loose_4 rfl rfl cl_X11_86 rfl (c_within m n 1 40) ?_
  refine j_if_ne_bz 17 10 dX11_loose_7 rfl rfl (fun h7 => ?_) (fun h7 => absurd c h7)
  refine j_aload0 18 dX11_loose_17 rfl ?_
  refine j_getR 21 dX11_loose_18 rfl fl_X11_35 rfl rfl ?_
  refine j_getI 24 dX11_loose_21 rfl fl_X11_202 rfl rfl ?_
  refine j_iload1 25 dX11_loose_24 rfl ?_
  refine j_iadd 26 dX11_loose_25 rfl ?_
  refine j_sipush 29 (v := 9999) dX11_loose_26 rfl rfl ?_
  refine j_cmp_le 39 32 dX11_loose_29 rfl rfl (fun h29 => absurd h29 h) (fun h29 => ?_)
  refine j_aload0 33 dX11_loose_32 rfl ?_
  refine j_ldc 35 dX11_loose_33 rfl kc_X11_169 ?_
  refine j_vi1f 38 dX11_loose_35 rfl rfl cl_X11_82 rfl rfl (c_err3 m) ?_
  refine j_iret dX11_loose_38 rfl ?_
  exact ⟨rfl, rfl⟩
set_option maxRecDepth 100000 in
theorem f_loose3 (m : Mem) (n : Int32) (c : 1 ≤ n ∧ n ≤ 40) (h : ¬ m 69 1 + n ≤ 9999) : JM l g 2 mX12_loose [rf g 68, .int n] m (RF (some (.int (-1000000003))) (errM 3 m)) := by
  refine JM_of (ls := [some (rf g 68), some (.int n), none, none]) pn_X12 rfl rfl ?_
  refine j_iload1 1 dX12_loose_0 rfl ?_
  refine j_i2l 2 dX12_loose_1 rfl ?_
  refine j_lconst 3 (v := 1) dX12_loose_2 rfl rfl ?_
  refine j_ldc2 6 dX12_loose_3 rfl kl_X12_218 ?_
  refine j_st3f 9 dX12_loose_6 rfl rfl cl_X12_47 rfl (c_in m n 1 40) ?_
  refine j_if_ne_bz 18 12 dX12_loose_9 rfl rfl (fun h9 => ?_) (fun h9 => absurd c h9)
  refine j_aload0 19 dX12_loose_18 rfl ?_
  refine j_getR 22 dX12_loose_19 rfl fl_X12_7 rfl rfl ?_
  refine j_iconst 23 (v := 1) dX12_loose_22 rfl rfl ?_
  refine j_iald 24 1 rfl (by first | assumption | decide | omega) dX12_loose_23 rfl rfl ?_
  refine j_iload1 25 dX12_loose_24 rfl ?_
  refine j_iadd 26 dX12_loose_25 rfl ?_
  refine j_sipush 29 (v := 9999) dX12_loose_26 rfl rfl ?_
  refine j_cmp_le 38 32 dX12_loose_29 rfl rfl (fun h29 => absurd h29 h) (fun h29 => ?_)
  refine j_aload0 33 dX12_loose_32 rfl ?_
  refine j_iconst 34 (v := 3) dX12_loose_33 rfl rfl ?_
  refine j_vi1f 37 dX12_loose_34 rfl rfl cl_X12_126 rfl rfl (c_finds3 m) ?_
  refine j_iret dX12_loose_37 rfl ?_
  exact ⟨rfl, rfl⟩
set_option maxRecDepth 100000 in
theorem o_loose (hL : LH Z V) (m : Mem) (d : Nat → Int32) (w : WF d) (hT : TR 9 m d) (hP : PR 36 m d) (n : Nat) (hn40 : n ≤ 40) (c : 1 ≤ nI n ∧ nI n ≤ 40) (h : m 9 13 + nI n ≤ 9999) : JM l g 6 mX11_loose [rf g 0, .int (nI n)] m (RS (some (.int (lsN Z V n d 4))) (fun m' => TR 9 m' (lsN Z V n d) ∧ PR 36 m' (lsN Z V n d) ∧ Sm lsS m m')) := by
  refine JM_of (ls := [some (rf g 0), some (.int (nI n)), none, none]) pn_X11 rfl rfl ?_
  refine j_iload1 1 dX11_loose_0 rfl ?_
  refine j_iconst 2 (v := 1) dX11_loose_1 rfl rfl ?_
  refine j_bipush 4 (v := 40) dX11_loose_2 rfl rfl ?_
  refine j_st3f 7 dX11_loose_4 rfl rfl cl_X11_86 rfl (c_within m _ 1 40) ?_
  refine j_if_ne_bz 17 10 dX11_loose_7 rfl rfl (fun h7 => ?_) (fun h7 => absurd c h7)
  refine j_aload0 18 dX11_loose_17 rfl ?_
  refine j_getR 21 dX11_loose_18 rfl fl_X11_35 rfl rfl ?_
  refine j_getI 24 dX11_loose_21 rfl fl_X11_202 rfl rfl ?_
  refine j_iload1 25 dX11_loose_24 rfl ?_
  refine j_iadd 26 dX11_loose_25 rfl ?_
  refine j_sipush 29 (v := 9999) dX11_loose_26 rfl rfl ?_
  refine j_cmp_le 39 32 dX11_loose_29 rfl rfl (fun h29 => ?_) (fun h29 => absurd h h29)
  refine j_iconst 40 (v := 0) dX11_loose_39 rfl rfl ?_
  refine j_istore2 41 dX11_loose_40 rfl rfl rfl ?_
  exact lp_loose hL d w n hn40 m (fun m' a b c => ⟨rfl, a, b, c⟩) n 0 m none (Nat.zero_add _) hT hP Sm.rf
set_option maxRecDepth 100000 in
theorem p_loose (hL : LH Z V) (m : Mem) (w : WF (m 69)) (hd : nb (m 69 1) 10000) (n : Nat) (hn40 : n ≤ 40) (c : 1 ≤ nI n ∧ nI n ≤ 40) (h : m 69 1 + nI n ≤ 9999) : JM l g 6 mX12_loose [rf g 68, .int (nI n)] m (RS (some (.int (lsN Z V n (m 69) 4))) (fun m' => m' 69 = lsN Z V n (m 69) ∧ Sm [69, 73, 75] m m')) := by
  refine JM_of (ls := [some (rf g 68), some (.int (nI n)), none, none]) pn_X12 rfl rfl ?_
  refine j_iload1 1 dX12_loose_0 rfl ?_
  refine j_i2l 2 dX12_loose_1 rfl ?_
  refine j_lconst 3 (v := 1) dX12_loose_2 rfl rfl ?_
  refine j_ldc2 6 dX12_loose_3 rfl kl_X12_218 ?_
  refine j_st3f 9 dX12_loose_6 rfl rfl cl_X12_47 rfl (c_in m _ 1 40) ?_
  refine j_if_ne_bz 18 12 dX12_loose_9 rfl rfl (fun h9 => ?_) (fun h9 => absurd c h9)
  refine j_aload0 19 dX12_loose_18 rfl ?_
  refine j_getR 22 dX12_loose_19 rfl fl_X12_7 rfl rfl ?_
  refine j_iconst 23 (v := 1) dX12_loose_22 rfl rfl ?_
  refine j_iald 24 1 rfl (by first | assumption | decide | omega) dX12_loose_23 rfl rfl ?_
  refine j_iload1 25 dX12_loose_24 rfl ?_
  refine j_iadd 26 dX12_loose_25 rfl ?_
  refine j_sipush 29 (v := 9999) dX12_loose_26 rfl rfl ?_
  refine j_cmp_le 38 32 dX12_loose_29 rfl rfl (fun h29 => ?_) (fun h29 => absurd h h29)
  refine j_iconst 39 (v := 0) dX12_loose_38 rfl rfl ?_
  refine j_istore2 40 dX12_loose_39 rfl rfl rfl ?_
  exact lm_loose hL (m 69) w hd n hn40 m (fun m' a b => ⟨rfl, a, b⟩) n 0 m none (Nat.zero_add _) rfl Sm.rf
theorem op_loose {m : Mem} (I : INV m) (n : Int32) : OPr l g mX11_loose mX12_loose [.int n] m := by
  obtain ⟨Z, V, hL⟩ := LH_ex
  obtain ⟨⟨wf, hd, hT, hP⟩, -⟩ := id I
  by_cases c : 1 ≤ n ∧ n ≤ 40
  · by_cases h : m 69 1 + n ≤ 9999
    · obtain ⟨i, hi, rfl⟩ := (rngN 40 (by decide)).mp ⟨Int32.le_trans (by decide) c.1, c.2⟩
      refine ⟨6, 6, _, _, by decide, by decide, o_loose hL m (m 69) wf hT hP i hi c (by rw [hT.2.2.2.2.1]; exact h), fun m' e => ?_⟩
      obtain ⟨e1, e0, e2⟩ := e
      have e69 : m' 69 = m 69 := e2 69 (by decide)
      have hq := p_loose (l := l) (g := g) hL m' (by rw [e69]; exact wf) (by rw [e69]; exact hd) i hi c (by rw [e69]; exact h)
      rw [e69] at hq
      refine hq.mono (RS_w (fun m2 q => ?_))
      obtain ⟨q1, q2⟩ := q
      refine INV_new I (fun x hx => ?_) (by rw [q2 68 (by decide), e2 68 (by decide)]) ⟨by rw [q1]; exact lsN_wf i wf, ?_, by rw [q1]; exact TR_same e1 (fun b b1 b2 => q2 b (by simp; omega)), by rw [q1]; exact PR_same e0 (fun b hb => q2 b (by simp; omega))⟩
      · rw [q2 x (fun z => by simp only [List.mem_cons, List.not_mem_nil, or_false] at z; rcases z with rfl | rfl | rfl <;> exact absurd hx (by decide))]
        refine e2 x (fun z => ?_)
        simp only [lsS, List.mem_cons, List.not_mem_nil, or_false] at z
        rcases z with rfl | rfl | rfl | rfl | rfl | rfl | rfl | rfl <;> exact absurd hx (by decide)
      · rw [q1, lsN_1 i wf]
        obtain ⟨k, hk, ek⟩ := hd
        rw [ek, nI_add] at h ⊢
        have := (nI_leI (a := k + i) (b := 9999) (by omega) (by decide)).mp h
        exact ⟨k + i, by omega, rfl⟩
    · exact OPr_err I (by decide) (by decide) (by decide) (e_loose3 m n c (by rw [hT.2.2.2.2.1]; exact h)) (f_loose3 _ n c (by rw [errC_o (by decide)]; exact h))
  · exact OPr_err I (by decide) (by decide) (by decide) (e_loose m n c) (f_loose _ n c)
end O20
