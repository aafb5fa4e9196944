/-! the start: the table m0 has INV; what is fixed at the start; both constructors in the law's frame -/
theorem nb_0 {n : Nat} (h : 0 < n) : nb 0 n := ⟨0, h, rfl⟩
theorem nb_e {x : Int32} {n : Nat} (e : x = 0) (h : 0 < n) : nb x n := ⟨0, h, e⟩
theorem d0_sun : ∀ i, i < 16 → m0 69 (8 + i) = nI 3 := by decide +kernel
theorem d0_to : ∀ i, i < 16 → m0 69 (24 + i) = nI ((i + 1) % 16) := by decide +kernel
theorem d0_h : ∀ h, h < 8 → ∀ r, r < 6 → m0 69 (40 + 6 * h + r) = 0 := by decide +kernel
theorem d0_up : ∀ i, i < 172 → m0 69 (88 + i) = 0 := by decide +kernel
theorem WF_m0 : WF (m0 69) := by
  refine ⟨nb_0 (by decide), ⟨1, by decide, by decide +kernel⟩, ⟨⟨7, by decide, by decide +kernel⟩, by decide +kernel⟩, nb_0 (by decide), nb_0 (by decide), nb_0 (by decide), fun i hi => ⟨3, by decide, d0_sun i hi⟩, fun i hi => ⟨(i + 1) % 16, by omega, d0_to i hi⟩, fun h hh => ?_, ⟨0, by decide, by decide +kernel, fun k hk => absurd hk (Nat.not_lt_zero k)⟩, ⟨0, by decide, by decide +kernel, fun k hk => absurd hk (Nat.not_lt_zero k)⟩, fun i hi => ?_⟩
  · have e : ∀ r, r < 6 → hf (m0 69) h r = 0 := fun r hr => d0_h h hh r hr
    have e0 := e 0 (by decide)
    have e1 := e 1 (by decide)
    have e2 := e 2 (by decide)
    have e3 := e 3 (by decide)
    have e4 := e 4 (by decide)
    have e5 := e 5 (by decide)
    refine ⟨?_, ?_, ?_, ?_, ?_, ?_, ?_⟩
    · exact nb_e e0 (by decide)
    · exact nb_e e1 (by decide)
    · exact nb_e e2 (by decide)
    · exact nb_e e3 (by decide)
    · exact fun _ => nb_e e4 (by decide)
    · exact fun q => absurd e3 q
    · exact nb_e e5 (by decide)
  · have e : m0 69 (210 + i) = 0 := by
      have := d0_up (122 + i) (by omega)
      rw [show 210 + i = 88 + (122 + i) by omega]
      exact this
    rw [e]
    exact nb_0 (by decide)
theorem TR_m0 : TR 9 m0 (m0 69) := ⟨by decide +kernel, by decide +kernel, by decide +kernel, by decide +kernel, by decide +kernel, by decide +kernel, by decide +kernel, by decide +kernel⟩
theorem PR_m0 : PR 36 m0 (m0 69) := ⟨by decide +kernel, by decide +kernel, by decide +kernel, by decide +kernel, by decide +kernel, ⟨by decide +kernel, by decide +kernel, by decide +kernel⟩, ⟨by decide +kernel, by decide +kernel, by decide +kernel⟩⟩
theorem SH_m0 : ∀ s, s < 4 → SH m0 s := fun s hs => by
  have a1 : ∀ s, s < 4 → (m0 65 s = m0 77 s ∧ m0 66 s = m0 78 s ∧ m0 77 s = 0 ∧ m0 78 s = 0 ∧ ∀ i, i < 40 → m0 (61 + s) i = m0 79 (40 * s + i)) := by decide +kernel
  obtain ⟨h1, h2, h3, h4, h5⟩ := a1 s hs
  exact ⟨h1, h2, Or.inl h3, nb_e h4 (by decide), h5⟩
theorem INV_m0 : INV m0 := ⟨⟨WF_m0, nb_0 (by decide), TR_m0, PR_m0⟩, ⟨by decide +kernel, fun q => absurd (by decide +kernel) q, by decide +kernel, by decide +kernel⟩, fun k h1 h2 => (show ∀ k, k < 6 → m0 67 k = m0 72 k by decide +kernel) k (by omega), ⟨by decide +kernel, nb_0 (by decide), by decide +kernel⟩, SH_m0⟩
/-- the words that don't look at the arguments -/
def wfree : Cond → Bool
  | .methodLink .. | .code .. | .selects .. | .instanceMethod .. | .fieldLink .. | .soleField .. | .privateMethod .. | .static .. | .laysFinal .. | .lays .. | .initialized .. | .sameMethod .. | .constantLong .. | .constant .. | .methodLinkNest .. | .classLink .. | .instantiable .. | .superclass .. | .laysStatic .. | .castable .. | .declares .. | .arrayOver .. | .arrayClass .. | .stringRef .. | .native .. => true
  | _ => false
theorem wfree_eq {A A' : Array Value} {s : State} : ∀ c : Cond, wfree c = true → c.before A s = c.before A' s := by
  intro c hc
  cases c <;> first | rfl | (simp [wfree] at hc)
theorem tbl_on : ∀ w ∈ lw_tbl, wfree w = true := by
  have h : lw_tbl.all wfree = true := by decide +kernel
  exact fun w hw => List.all_eq_true.mp h w hw
set_option maxHeartbeats 1000000 in
theorem G0_start {s : State} {b : Nat} (hts : ∀ w ∈ lw_tbl, w.before #[Value.ref b] s = true) (hgv : (Jvm.Cond.and given_1 narrow_1).before #[Value.ref b] s = true) : ∃ g : Gv, g.1 = s ∧ G0 g ∧ ∀ i : Nat, i < 81 → ga g i = gB g + i := by
  have hf := flat_of_before _ hgv
  have hg : ∀ w ∈ lw_gd, w.before #[Value.ref b] s = true := fun w hw => hts w (List.mem_filter.mp hw).1
  have kn : ∀ (ci : Nat) (q : vw_C), cls[ci]? = some q → ∃ (cC : ClassId) (iS : Nat → Nat), u_Kn s q.1 q.2.1 q.2.2 cC iS := by
    intro ci q hq
    have hin := (clsOK hq).1
    match ci, hq with
    | 0, hq => cases hq; exact u_known (n := 0) hg hin (hg _ tw_116)
    | 1, hq => cases hq; exact u_known (n := 0) hg hin (hg _ tw_109)
    | 2, hq => cases hq; exact u_known (n := 0) hg hin (hg _ tw_130)
    | 3, hq => cases hq; exact u_known (n := 0) hg hin (hg _ tw_123)
    | 4, hq => cases hq; exact u_known (n := 0) hg hin (hg _ tw_137)
    | 5, hq => cases hq; exact u_known (n := 0) hg hin (hg _ tw_95)
    | 6, hq => cases hq; exact u_known (n := 9) hg hin (hg _ tw_213)
    | 7, hq => cases hq; exact u_known (n := 0) hg hin (hg _ tw_102)
    | 8, hq => cases hq; exact u_known (n := 7) hg hin (hg _ tw_207)
    | 9, hq => cases hq; exact u_known (n := 4) hg hin (hg _ tw_281)
    | 10, hq => cases hq; exact u_known (n := 14) hg hin (hg _ tw_144)
    | 11, hq => cases hq; exact u_known (n := 11) hg hin (hg _ tw_86)
    | 12, hq => cases hq; exact u_known (n := 22) hg hin (hg _ tw_1014)
    | k + 13, hq => simp [cls] at hq
  have kn2 : ∀ ci : Nat, ∃ p : ClassId × (Nat → Nat), ∀ q, cls[ci]? = some q → u_Kn s q.1 q.2.1 q.2.2 p.1 p.2 := by
    intro ci
    cases hq : cls[ci]? with
    | none => exact ⟨(0, fun _ => 0), fun q h => by cases h⟩
    | some q =>
      obtain ⟨cC, iS, h⟩ := kn ci q hq
      exact ⟨(cC, iS), fun q' e => by cases e; exact h⟩
  obtain ⟨f, hfk⟩ : ∃ f : Nat → ClassId × (Nat → Nat), ∀ ci q, cls[ci]? = some q → u_Kn s q.1 q.2.1 q.2.2 (f ci).1 (f ci).2 := ⟨fun ci => Classical.choose (kn2 ci), fun ci => Classical.choose_spec (kn2 ci)⟩
  obtain ⟨c0, k0, p0, i1, i2, i3⟩ := Cond.arrayClass_spec (args := #[Value.ref b]) (first := s) (o := none) (s := s) (idx := []) (hg _ ac_int)
  obtain ⟨p1, c1, k1, j1, -, j3, j4, j5⟩ := Cond.arrayOver_spec (args := #[Value.ref b]) (first := s) (o := none) (s := s) (idx := []) (hts _ tt_94)
  obtain ⟨p2, c2, k2, m1, -, m3, m4, m5⟩ := arrayOverA_spec (hts _ tt_305)
  obtain ⟨a0, _, _, _, u0, _⟩ := Cond.exactly_spec (args := #[Value.ref b]) (first := s) (o := none) (s := s) (idx := []) (t := .string RX8 20) (cls := "java/lang/String") (hf _ (by decide +kernel))
  obtain ⟨a1, _, _, _, u1, _⟩ := Cond.exactly_spec (args := #[Value.ref b]) (first := s) (o := none) (s := s) (idx := []) (t := .string RX8 29) (cls := "java/lang/String") (hf _ (by decide +kernel))
  have hel : ∀ j : Nat, j < 7 → (Term.elem (.static "DustSills" "ABOVE" "[I") (.int (Int32.ofNat j))).eval #[Value.ref b] s none [] s = some (.int (abv j)) := by
    intro j hj
    rcases (show j = 0 ∨ j = 1 ∨ j = 2 ∨ j = 3 ∨ j = 4 ∨ j = 5 ∨ j = 6 by omega) with rfl | rfl | rfl | rfl | rfl | rfl | rfl <;> exact va_eqt (hf _ (by decide +kernel))
  obtain ⟨a2, u2, -⟩ := va_Tof (args := #[Value.ref b]) (s := s) (tm := .static "DustSills" "ABOVE" "[I") (ty := .int) (N := 7) (f := fun j => .int (abv j)) (A := fun q => s.heap.size ≤ q) (by decide) (hf _ (by decide +kernel)) (va_eqt (hf _ (by decide +kernel))) hel (fun q hq => Nat.not_le.mpr hq)
  refine ⟨(s, fun ci => (f ci).1, fun ci => (f ci).2, fun i => if i = 0 then c0 else if i = 1 then c1 else c2, fun i => if i < 81 then s.heap.size + i else if i = 100 then a0 else if i = 101 then a1 else a2), rfl, ⟨⟨fun c q hq => hfk c q hq, ?_⟩, ?_, ?_, ?_, ⟨_, hgv⟩, ?_, ?_, ?_⟩, ?_⟩
  · intro k q hk
    match k, hk with
    | 0, hk => cases hk; exact ⟨fun N z => ⟨(fun k h => by cases h), k0, i2, p0, i3⟩, i1⟩
    | 1, hk => cases hk; exact ⟨fun N z => ⟨(fun k h => by cases h), k1, j3, p1, j4⟩, k1, p1, j3, j4, j1, j5⟩
    | 2, hk => cases hk; exact ⟨fun N z => ⟨(fun k h => by cases h), k2, m3, p2, m4⟩, m5⟩
    | k + 3, hk => simp [tys] at hk
  · intro i j hi hj h
    have h : (if i < 81 then s.heap.size + i else if i = 100 then a0 else if i = 101 then a1 else a2) = (if j < 81 then s.heap.size + j else if j = 100 then a0 else if j = 101 then a1 else a2) := h
    rw [if_pos hi, if_pos hj] at h
    omega
  · intro i hi
    show s.heap.size ≤ (if i < 81 then s.heap.size + i else if i = 100 then a0 else if i = 101 then a1 else a2)
    rw [if_pos hi]
    omega
  · exact fun w hw => (wfree_eq w (tbl_on w hw)).trans (hts w hw)
  · exact u0
  · exact u1
  · exact u2
  · intro i hi
    show (if i < 81 then s.heap.size + i else if i = 100 then a0 else if i = 101 then a1 else a2) = s.heap.size + i
    rw [if_pos hi]
def XS (g : Gv) (b L : Nat) (xs : Nat → Int32) : State → Array Value → List Frame → Method → (State → Prop) → Prop := fun s args below _ Q => s = g.1 ∧ args = #[Value.ref b] ∧ Q = lw_Z below args s ∧ va_X b L xs g.1 g.1.heap ∧ b < g.1.heap.size
def P0 : Pr := fun _ _ => false
theorem cell_end {g : Gv} {P : Pr} {a : Nat} (h : ∀ k, P a k = true) : cellP g P a = cellOf g m0 a := by
  have e : ∀ k, onP P a k = true := fun k => by unfold onP; rw [h k]; rfl
  have e1 : vP g P a = fv g m0 a := by
    funext k
    unfold vP
    rw [if_pos (e k)]
  have e2 : (fun k => if onP P a k = true then m0 a k else 0) = m0 a := by
    funext k
    rw [if_pos (e k)]
  have e3 : (fun k => if onP P a k = true then some (ga g (rs a k - 1)) else none) = fun k => some (ga g (rs a k - 1)) := by
    funext k
    rw [if_pos (e k)]
  unfold cellP cellOf
  rw [e1, e2, e3]
theorem P_end : ∀ a, a < 81 → ∀ k, setR (setR P0 0 68) 68 13 a k = true := fun a ha k => by
  unfold setR
  by_cases h : a < 68
  · have e1 : Nat.blt a (0 + 68) = true := Nat.ble_eq_true_of_le (by omega)
    have e2 : Nat.ble 0 a = true := Nat.ble_eq_true_of_le (by omega)
    rw [e1, e2]
    simp
  · have e1 : Nat.blt a (68 + 13) = true := Nat.ble_eq_true_of_le (by omega)
    have e2 : Nat.ble 68 a = true := Nat.ble_eq_true_of_le (by omega)
    rw [e1, e2]
    simp
theorem RH_end {g : Gv} {P : Pr} {H : Heap} (hP : ∀ a, a < 81 → ∀ k, P a k = true) (r : RC g 81 P H) : RH g m0 H := by
  obtain ⟨r1, r2, r3, -, -⟩ := r
  refine ⟨?_, by omega, r3⟩
  have e : Wc g 81 P = Wd g m0 := by
    unfold Wc Wd
    apply List.map_congr_left
    intro a ha
    rw [cell_end (hP a (List.mem_range.mp ha))]
  rw [← e]
  exact r1
section ST
variable {l : Launch} {g : Gv} {b L : Nat} {xs : Nat → Int32}
theorem law_start (G : G0 g) (hL : L ≤ 3072) : JX l g mL_law (KX g room_1 0 0 0 P0 (XS g b L xs)) 0 [some (.ref b), none, none, none] [] := by
  have hs0 := G.2.2.2.2.2.1
  have hs1 := G.2.2.2.2.2.2.1
  refine x_new 3 dL_law_0 rfl (ci := 11) rfl tw_85 tw_86 tw_63 rfl (by decide +kernel) rfl rfl ?_
  refine x_dup 4 dL_law_3 rfl rfl ?_
  refine x_call 7 (As := []) rfl dL_law_4 rfl ci_L_9 rfl rfl rfl rfl rfl (c_X11_init hs0 hs1 _) rfl ?_
  refine x_astore1 8 dL_law_7 rfl rfl rfl ?_
  refine x_new 11 dL_law_8 rfl (ci := 12) rfl tw_1013 tw_1014 tw_75 rfl (by decide +kernel) rfl rfl ?_
  refine x_dup 12 dL_law_11 rfl rfl ?_
  refine x_call 15 (As := []) rfl dL_law_12 rfl ci_L_12 rfl rfl rfl rfl rfl (c_X12_init _) rfl ?_
  refine x_astore2 16 dL_law_15 rfl rfl rfl ?_
  refine x_iconst 17 dL_law_16 rfl (show _ = nI 0 by decide) ?_
  refine x_istore3 18 dL_law_17 rfl rfl rfl ?_
  refine (law_loop (l := l) (g := g) (b := b) (L := L) (xs := xs) G hL L 0 m0 INV_m0 (by omega) (by omega)).mono (fun p e R s mi args below meth c H locs cells slots Q K0 => ?_)
  obtain ⟨h1, ⟨h2, h3, -⟩, r, S, -, x1, x2, x3, x4, x5⟩ := K0
  exact ⟨h1, ⟨by rw [h2]; decide, by rw [h3]; decide⟩, RH_end P_end r, S, x1, x2, x3, x4, x5⟩
end ST
theorem whole_start {p : Program} {e : Env} {s : State} {m : MethodId} {below : List Frame} {meth : Method} {c : Code} (l : Launch) {b L : Nat} {xs : Nat → Int32} (hL : L ≤ 3072) (C0 : lw_At p s m meth c b L xs) : W p l e room_1 s m #[Value.ref b] below meth c s.heap [] 0 0 (lw_Z below #[Value.ref b] s) (entryFrame m ([Value.ref b] : List Value).toArray 4) := by
  obtain ⟨hx, hb, hr, hml, hown, hts, hX, hbl, hlocks, hgv⟩ := C0
  obtain ⟨g, rfl, G, hA⟩ := G0_start hts hgv
  have hl := lv_entry ([.ref b]) (n := 4) (Nat.le_of_ble_eq_true rfl)
  rw [lg_entry_eq]
  exact law_start (l := l) (g := g) (b := b) (L := L) (xs := xs) G hL p e room_1 g.1 m #[Value.ref b] below meth c g.1.heap [] 0 0 _ _ ⟨hx, hb, hr, hml, hown, fun w hw => hts w (List.mem_filter.mp hw).1, hlocks, G, Vm.Alike.refl _⟩ ⟨rfl, ⟨rfl, rfl, rfl⟩, ⟨fun k q h => by simp [Wc] at h, rfl, fun _ _ => rfl, ⟨by decide, fun _ _ _ => rfl⟩, hA⟩, (fun q h => by cases h), State.WarmedH.refl _, rfl, rfl, rfl, hX, hbl⟩ hl
