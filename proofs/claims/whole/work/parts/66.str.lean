/-! the two Strings of names: indexOf by the JDK's own code -/
theorem pn_J0 : plainName RJ0 = true := by decide +kernel
theorem pn_J1 : plainName RJ1 = true := by decide +kernel
def stN2 (u : Nat) : Nat := if u = 0 then 20 else 29
def stB (u j : Nat) : Int32 := if u = 0 then (if j = 0 then 99 else if j = 1 then 100 else 112) else (if j = 0 then 108 else if j = 1 then 115 else 100)
/-- a String of ours: its object, its two fields, its bytes -/
def SO (g : Gv) (u v : Nat) : Prop := va_O "java/lang/String" (ga g (100 + u)) (Fz g) g.1 g.1.heap ∧ va_OF "java/lang/String" "coder" "B" (.int 0) (ga g (100 + u)) (Fz g) g.1 g.1.heap ∧ va_OF "java/lang/String" "value" "[B" (.ref v) (ga g (100 + u)) (Fz g) g.1 g.1.heap ∧ va_T .byte v 3 (fun j => .int (stB u j)) (Fz g) g.1 g.1.heap
theorem SO_of {g : Gv} (h : G0 g) {u : Nat} (hu : u ≤ 1) : ∃ v, SO g u v := by
  obtain ⟨-, -, -, hw, ⟨a, ha⟩, h20, h29, -⟩ := h
  have hf := flat_of_before _ ha
  have hA : ∀ q : Nat, q < g.1.heap.size → ¬ Fz g q := fun q hq => Nat.not_le.mpr hq
  have key : ∀ (k : Nat) (b0 b1 b2 : Int32) (i : Nat), (Term.string RX8 k).eval #[] g.1 none [] g.1 = some (.ref (ga g i)) → (Cond.exactly (.string RX8 k) "java/lang/String").before a g.1 = true → (Cond.eq (.field (.string RX8 k) "java/lang/String" "coder" "B") (.int 0)).before a g.1 = true → (Cond.arrayOf (.field (.string RX8 k) "java/lang/String" "value" "[B") .byte).before a g.1 = true → (Cond.eq (.length (.field (.string RX8 k) "java/lang/String" "value" "[B")) (.int 3)).before a g.1 = true → (Cond.eq (.elem (.field (.string RX8 k) "java/lang/String" "value" "[B") (.int 0)) (.int b0)).before a g.1 = true → (Cond.eq (.elem (.field (.string RX8 k) "java/lang/String" "value" "[B") (.int 1)) (.int b1)).before a g.1 = true → (Cond.eq (.elem (.field (.string RX8 k) "java/lang/String" "value" "[B") (.int 2)) (.int b2)).before a g.1 = true → ∃ v, va_O "java/lang/String" (ga g i) (Fz g) g.1 g.1.heap ∧ va_OF "java/lang/String" "coder" "B" (.int 0) (ga g i) (Fz g) g.1 g.1.heap ∧ va_OF "java/lang/String" "value" "[B" (.ref v) (ga g i) (Fz g) g.1 g.1.heap ∧ va_T .byte v 3 (fun j => .int (if j = 0 then b0 else if j = 1 then b1 else b2)) (Fz g) g.1 g.1.heap := by
    intro k b0 b1 b2 i e1 x1 x2 x3 x4 x5 x6 x7
    have e1 : (Term.string RX8 k).eval a g.1 none [] g.1 = some (.ref (ga g i)) := e1
    obtain ⟨a', c, cA, kA, q1, q2, q3, q4, q5, q6, -⟩ := Cond.exactly_spec (args := a) (first := g.1) (o := none) (s := g.1) (idx := []) (t := .string RX8 k) (cls := "java/lang/String") x1
    have ea : a' = ga g i := by simpa using q1.symm.trans e1
    subst ea
    obtain ⟨t, ht, hT⟩ := va_Tof (args := a) (s := g.1) (N := 3) (f := fun j => .int (if j = 0 then b0 else if j = 1 then b1 else b2)) (A := Fz g) (by decide) x3 (va_eqt x4) (fun j hj => by
      rcases (show j = 0 ∨ j = 1 ∨ j = 2 by omega) with rfl | rfl | rfl
      · exact va_eqt x5
      · exact va_eqt x6
      · exact va_eqt x7) hA
    exact ⟨t, ⟨cA, q3, q5, by rw [q6]; exact q2, hA _ (Array.getElem?_eq_some_iff.mp q3).1⟩, vk_OFof q1 (va_eqt x2) hA, vk_OFof q1 ht hA, hT⟩
  rcases (show u = 0 ∨ u = 1 by omega) with rfl | rfl
  · exact key 20 99 100 112 100 h20 (hf _ (by decide +kernel)) (hf _ (by decide +kernel)) (hf _ (by decide +kernel)) (hf _ (by decide +kernel)) (hf _ (by decide +kernel)) (hf _ (by decide +kernel)) (hf _ (by decide +kernel))
  · exact key 29 108 115 100 101 h29 (hf _ (by decide +kernel)) (hf _ (by decide +kernel)) (hf _ (by decide +kernel)) (hf _ (by decide +kernel)) (hf _ (by decide +kernel)) (hf _ (by decide +kernel)) (hf _ (by decide +kernel))
theorem cs_lay : Cond.laysStatic "java/lang/String" "COMPACT_STRINGS" "Z" ∈ lw_tbl := List.mem_of_getElem? (i := 570) (by decide +kernel)
theorem cs_ini : Cond.initialized "java/lang/String" ∈ lw_tbl := List.mem_of_getElem? (i := 77) (by decide +kernel)
theorem cs_lnk : Cond.fieldLink RJ0 38 "java/lang/String" "COMPACT_STRINGS" "Z" ∈ lw_gd := gd (List.mem_of_getElem? (i := 569) (by decide +kernel)) rfl
theorem cs_cod : Cond.fieldLink RJ0 15 "java/lang/String" "coder" "B" ∈ lw_gd := gd (List.mem_of_getElem? (i := 1502) (by decide +kernel)) rfl
theorem cs_val : Cond.fieldLink RJ0 9 "java/lang/String" "value" "[B" ∈ lw_gd := gd (List.mem_of_getElem? (i := 1503) (by decide +kernel)) rfl
theorem cs_Z {g : Gv} (h : G0 g) : va_Z "java/lang/String" "COMPACT_STRINGS" "Z" (.int 1) (Fz g) g.1 g.1.heap := by
  obtain ⟨-, -, -, hw, ⟨a, ha⟩, -, -, -⟩ := h
  have hf := flat_of_before _ ha
  have e : (Term.static "java/lang/String" "COMPACT_STRINGS" "Z").eval a g.1 none [] g.1 = some (.int 1) := va_eqt (hf _ (by decide +kernel))
  exact va_Zof (hw _ cs_lay) (hw _ cs_ini) e (fun q hq => Nat.not_le.mpr hq)
theorem cv_X6_92 : CVi RX6 92 mJ0_indexOf_0f7a4 1 := ⟨mi_J0_indexOf_0f7a4, gd (List.mem_of_getElem? (i := 557) (by decide +kernel)) rfl, gd (List.mem_of_getElem? (i := 558) (by decide +kernel)) rfl, gd (List.mem_of_getElem? (i := 559) (by decide +kernel)) rfl⟩
theorem cv_J0_633 : CVi RJ0 633 mJ0_indexOf_7cf53 2 := ⟨mi_J0_indexOf_7cf53, gd (List.mem_of_getElem? (i := 561) (by decide +kernel)) rfl, gd (List.mem_of_getElem? (i := 562) (by decide +kernel)) rfl, gd (List.mem_of_getElem? (i := 563) (by decide +kernel)) rfl⟩
theorem cv_J0_492 : CVi RJ0 492 mJ0_isLatin1_aae02 0 := ⟨mi_J0_isLatin1_aae02, gd (List.mem_of_getElem? (i := 565) (by decide +kernel)) rfl, gd (List.mem_of_getElem? (i := 566) (by decide +kernel)) rfl, gd (List.mem_of_getElem? (i := 567) (by decide +kernel)) rfl⟩
theorem cv_J0_505 : CVi RJ0 505 mJ0_length_8abf5 0 := ⟨mi_J0_length_8abf5, gd (List.mem_of_getElem? (i := 571) (by decide +kernel)) rfl, gd (List.mem_of_getElem? (i := 572) (by decide +kernel)) rfl, gd (List.mem_of_getElem? (i := 573) (by decide +kernel)) rfl⟩
theorem cv_J0_335 : CVi RJ0 335 mJ0_coder_7d493 0 := ⟨mi_J0_coder_7d493, gd (List.mem_of_getElem? (i := 575) (by decide +kernel)) rfl, gd (List.mem_of_getElem? (i := 576) (by decide +kernel)) rfl, gd (List.mem_of_getElem? (i := 577) (by decide +kernel)) rfl⟩
section O32
variable {l : Launch} {g : Gv}
section RW
variable {d d' : Nat} {y y' : MD} {pc : Nat} {ls : List (Option Value)} {st rest : List Value} {m : Mem} {Q Q' : Option Value → Mem → Prop}
theorem j_aloadV0 (pc' : Nat) {q : Nat} {r : List (Option Value)} (hdg : decode y.2.1 pc = .ok (.aload_n 0, 1)) (hp : pc + 1 = pc') (kk : J l g d y pc' (some (.ref q) :: r) (.ref q :: st) m Q) : J l g d y pc (some (.ref q) :: r) st m Q := by
  intro p e s mi args below meth c H locs la C R S L
  subst hp
  exact lv_aload_n (i := 0) C.1 C.2.1 hdg rfl (lv_rd L rfl) (kk p e s mi args below meth c H locs la C R S L)
theorem j_getsC (pc' : Nat) (hdg : decode y.2.1 pc = .ok (.getstatic 38, 3)) (hp : pc + 3 = pc') (hy : y.1.cls = RJ0) (kk : J l g d y pc' ls (.int 1 :: st) m Q) : J l g d y pc ls st m Q := by
  intro p e s mi args below meth c H locs la C R S L
  subst hp
  have hts := C.2.2.2.2.2.1
  obtain ⟨cf, kf, fi, f, a, cell, h1, h2, h3, h4, h5, h6, h7, h8⟩ := (cs_Z C.2.2.2.2.2.2.2.1).moved C.2.2.2.2.2.2.2.2
  have ha : H[a]? = some cell := by rw [R.2.2 a (Array.getElem?_eq_some_iff.mp h5).1]; exact h5
  exact W.gets C.1 C.2.1 (by rw [← hy]; exact C.2.2.2.2.1) (hts _ cs_lnk) h1 h2 h3 h4 ha (fun e => by rw [e] at h6; cases h6) h7 rfl hdg (kk p e s mi args below meth c H locs la C R S L)
theorem j_getO (pc' : Nat) {i q : Nat} {n ds : String} {v : Value} (hE : va_OF "java/lang/String" n ds v q (Fz g) g.1 g.1.heap) (hc : Cond.fieldLink y.1.cls i "java/lang/String" n ds ∈ lw_gd) (hdg : decode y.2.1 pc = .ok (.getfield i, 3)) (hp : pc + 3 = pc') (kk : J l g d y pc' ls (v :: st) m Q) : J l g d y pc ls (.ref q :: st) m Q := by
  intro p e s mi args below meth c H locs la C R S L
  subst hp
  have hts := C.2.2.2.2.2.1
  obtain ⟨cf, k, fi, f, cell, h1, h2, h3, h4, h5, h6⟩ := (hE.moved C.2.2.2.2.2.2.2.2)
  have ha : H[q]? = some cell := by rw [R.2.2 q (Array.getElem?_eq_some_iff.mp h3).1]; exact h3
  exact W.getf C.1 C.2.1 C.2.2.2.2.1 (hts _ hc) h1 h2 ha h4 (v := v) h5 rfl rfl hdg (kk p e s mi args below meth c H locs la C R S L)
theorem j_lenT (pc' : Nat) {q : Nat} {f : Nat → Value} (hE : va_T .byte q 3 f (Fz g) g.1 g.1.heap) (hdg : decode y.2.1 pc = .ok (.arraylength, 1)) (hp : pc + 1 = pc') (kk : J l g d y pc' ls (.int (nI 3) :: st) m Q) : J l g d y pc ls (.ref q :: st) m Q := by
  intro p e s mi args below meth c H locs la C R S L
  subst hp
  obtain ⟨cell, h1, h2, h3, h4, h5, h6, h7⟩ := hE.moved C.2.2.2.2.2.2.2.2
  have ha : H[q]? = some cell := by rw [R.2.2 q (Array.getElem?_eq_some_iff.mp h1).1]; exact h1
  exact W.alen C.1 C.2.1 ha h2 h5 rfl rfl hdg (kk p e s mi args below meth c H locs la C R S L)
theorem j_baldT (pc' : Nat) (i : Nat) {q : Nat} {x : Int32} {f : Nat → Int32} (hE : va_T .byte q 3 (fun j => .int (f j)) (Fz g) g.1 g.1.heap) (hx : x = nI i) (hi : i < 3) (hdg : decode y.2.1 pc = .ok (.baload, 1)) (hp : pc + 1 = pc') (kk : J l g d y pc' ls (.int (f i) :: st) m Q) : J l g d y pc ls (.int x :: .ref q :: st) m Q := by
  intro p e s mi args below meth c H locs la C R S L
  subst hp
  subst hx
  obtain ⟨cell, h1, h2, h3, h4, h5, h6, h7⟩ := hE.moved C.2.2.2.2.2.2.2.2
  have ec : (nI i).toNatClampNeg = i := nI_clamp (by omega)
  have ha : H[q]? = some cell := by rw [R.2.2 q (Array.getElem?_eq_some_iff.mp h1).1]; exact h1
  exact W.bald (v := .int (f i)) C.1 C.2.1 ha h2 h3 (fun z => z.elim (fun z => nI_pos (by omega) z) (fun z => by rw [ec] at z; omega)) (by rw [ec]; exact h6 i hi) rfl rfl hdg (kk p e s mi args below meth c H locs la C R S L)
theorem jg_vS {i q : Nat} {As : List Value} (hdg : decode y.2.1 pc = .ok (.invokevirtual i, 3)) (hd : d' < d) (hc : CVi y.1.cls i y' As.length) (hcl : y'.1.cls = "java/lang/String") (hO : va_O "java/lang/String" q (Fz g) g.1 g.1.heap) (hst : st = As.reverse ++ .ref q :: rest) (hw : Nat.ble (rest.map fun v => v.category).sum 8 = true) (hM : JM l g d' y' (.ref q :: As) m Q') (kk : ∀ r m', Q' r m' → J l g d y (pc + 3) ls (r.toList ++ rest) m' Q) : J l g d y pc ls st m Q := by
  refine j_run (as := .ref q :: As) (rest := rest) (Q' := Q') (fun p e s mi args below meth c H locs la C R S L => ?_) kk
  have hts := C.2.2.2.2.2.1
  have hr : ∃ cellB : Cell, H[q]? = some cellB ∧ cellB.vm.isStatics = false ∧ s.vm.findClass y'.1.cls = some cellB.cls := by
    obtain ⟨cell, h1, h2, h3, h4⟩ := hO.moved C.2.2.2.2.2.2.2.2
    exact ⟨cell, by rw [R.2.2 q (Array.getElem?_eq_some_iff.mp h1).1]; exact h1, h2, by rw [hcl]; exact h3⟩
  exact va_runV (n := As.length) (Ts := lw_gd) (C := y'.1.cls) (b := q) (As := As) ⟨C.1, C.2.1, C.2.2.2.1, C.2.2.2.2.1, hts⟩ hM ⟨callB_of As.length hts (gd_cons hc.1) rfl rfl rfl (hts _ hc.1.2.1) (hts _ hc.2.1) hc.1.2.2.1 (rm_fit hc.1 hd), hts _ hc.2.2.1, hts _ hc.2.2.2⟩ ⟨blind _ m, hr, fun U hU hW => ⟨rfl, by rw [hU]; exact R, (C.2.2.2.2.2.2.2).alike hW.alike⟩⟩ rfl rfl L.1 hst (lv_room (Nat.le_of_ble_eq_true hw)) hdg ⟨Nat.le_refl _, Nat.le_refl _⟩
variable {i q : Nat} {v : Value} {m1 : Mem} {a0 a1 : Value}
theorem j_vS0 (pc' : Nat) (hdg : decode y.2.1 pc = .ok (.invokevirtual i, 3)) (hp : pc + 3 = pc') (hd : Nat.blt d' d = true) (hc : CVi y.1.cls i y' 0) (hO : va_O "java/lang/String" q (Fz g) g.1 g.1.heap) (hcl : y'.1.cls = "java/lang/String") (hM : JM l g d' y' [.ref q] m (RF (some v) m1)) (kk : J l g d y pc' ls (v :: rest) m1 Q) (hw : Nat.ble (rest.map fun v => v.category).sum 8 = true := by rfl) : J l g d y pc ls (.ref q :: rest) m Q := by
  subst hp
  exact jg_vS (As := []) (rest := rest) hdg (Nat.le_of_ble_eq_true hd) hc hcl hO rfl hw hM (fun r m' h => by obtain ⟨rfl, rfl⟩ := h; exact kk)
theorem j_vS1 (pc' : Nat) (hdg : decode y.2.1 pc = .ok (.invokevirtual i, 3)) (hp : pc + 3 = pc') (hd : Nat.blt d' d = true) (hc : CVi y.1.cls i y' 1) (hO : va_O "java/lang/String" q (Fz g) g.1 g.1.heap) (hcl : y'.1.cls = "java/lang/String") (hM : JM l g d' y' [.ref q, a0] m (RF (some v) m1)) (kk : J l g d y pc' ls (v :: rest) m1 Q) (hw : Nat.ble (rest.map fun v => v.category).sum 8 = true := by rfl) : J l g d y pc ls (a0 :: .ref q :: rest) m Q := by
  subst hp
  exact jg_vS (As := [a0]) (rest := rest) hdg (Nat.le_of_ble_eq_true hd) hc hcl hO rfl hw hM (fun r m' h => by obtain ⟨rfl, rfl⟩ := h; exact kk)
theorem j_vS2 (pc' : Nat) (hdg : decode y.2.1 pc = .ok (.invokevirtual i, 3)) (hp : pc + 3 = pc') (hd : Nat.blt d' d = true) (hc : CVi y.1.cls i y' 2) (hO : va_O "java/lang/String" q (Fz g) g.1 g.1.heap) (hcl : y'.1.cls = "java/lang/String") (hM : JM l g d' y' [.ref q, a0, a1] m (RF (some v) m1)) (kk : J l g d y pc' ls (v :: rest) m1 Q) (hw : Nat.ble (rest.map fun v => v.category).sum 8 = true := by rfl) : J l g d y pc ls (a1 :: a0 :: .ref q :: rest) m Q := by
  subst hp
  exact jg_vS (As := [a0, a1]) (rest := rest) hdg (Nat.le_of_ble_eq_true hd) hc hcl hO rfl hw hM (fun r m' h => by obtain ⟨rfl, rfl⟩ := h; exact kk)
theorem j_bret0 (hdg : decode y.2.1 pc = .ok (.ireturn, 1)) (hr : y.2.2.2 = some .byte) (hq : Q (some (.int 0)) m) : J l g d y pc ls [.int 0] m Q := by
  intro p e s mi args below meth c H locs la C R S L
  exact W.zret (hlocks := C.2.2.2.2.2.2.1) C.1 C.2.1 (C.2.2.1.trans hr) (by decide) (fun t ht hW => ⟨_, m, rfl, hq, by rw [ht]; exact R, (C.2.2.2.2.2.2.2).alike hW.alike⟩) S hdg
end RW
theorem ib_eq : ∀ c : Fin 256, ((nI c.val).toInt8.toInt32 = nI 99 ↔ c.val = 99) ∧ ((nI c.val).toInt8.toInt32 = nI 100 ↔ c.val = 100) ∧ ((nI c.val).toInt8.toInt32 = nI 112 ↔ c.val = 112) ∧ ((nI c.val).toInt8.toInt32 = nI 108 ↔ c.val = 108) ∧ ((nI c.val).toInt8.toInt32 = nI 115 ↔ c.val = 115) := by decide +kernel
def ixF (u c : Nat) : Int32 := if nI c = stB u 0 then 0 else if nI c = stB u 1 then 1 else if nI c = stB u 2 then 2 else -1
set_option maxRecDepth 100000 in
theorem s_coder (m : Mem) (q : Nat) (h : va_OF "java/lang/String" "coder" "B" (.int 0) q (Fz g) g.1 g.1.heap) : JM l g 0 mJ0_coder_7d493 [.ref q] m (RF (some (.int 0)) m) := by
  refine JM_of (ls := [some (.ref q)]) pn_J0 rfl rfl ?_
  refine j_getsC 3 dJ0_coder_7d493_0 rfl rfl ?_
  refine j_if_eq 13 6 dJ0_coder_7d493_3 rfl rfl (fun h3 => absurd h3 (by decide)) (fun h3 => ?_)
  refine j_aloadV0 7 dJ0_coder_7d493_6 rfl ?_
  refine j_getO 10 h cs_cod dJ0_coder_7d493_7 rfl ?_
  refine j_goto 14 dJ0_coder_7d493_10 rfl ?_
  exact j_bret0 dJ0_coder_7d493_14 rfl ⟨rfl, rfl⟩
set_option maxRecDepth 100000 in
theorem s_lat (m : Mem) (q : Nat) (h : va_OF "java/lang/String" "coder" "B" (.int 0) q (Fz g) g.1 g.1.heap) : JM l g 0 mJ0_isLatin1_aae02 [.ref q] m (RF (some (.int 1)) m) := by
  refine JM_of (ls := [some (.ref q)]) pn_J0 rfl rfl ?_
  refine j_getsC 3 dJ0_isLatin1_aae02_0 rfl rfl ?_
  refine j_if_eq 17 6 dJ0_isLatin1_aae02_3 rfl rfl (fun h3 => absurd h3 (by decide)) (fun h3 => ?_)
  refine j_aloadV0 7 dJ0_isLatin1_aae02_6 rfl ?_
  refine j_getO 10 h cs_cod dJ0_isLatin1_aae02_7 rfl ?_
  refine j_if_ne 17 13 dJ0_isLatin1_aae02_10 rfl rfl (fun h10 => absurd h10 (fun q => q rfl)) (fun h10 => ?_)
  refine j_iconst 14 (v := 1) dJ0_isLatin1_aae02_13 rfl rfl ?_
  refine j_goto 18 dJ0_isLatin1_aae02_14 rfl ?_
  refine j_zret (by first | exact bz_01 | exact Or.inl rfl | exact Or.inr rfl | assumption) dJ0_isLatin1_aae02_18 rfl ?_
  exact ⟨rfl, rfl⟩
set_option maxRecDepth 100000 in
theorem s_len (m : Mem) (q v : Nat) (u : Nat) (hO : va_O "java/lang/String" q (Fz g) g.1 g.1.heap) (h : va_OF "java/lang/String" "coder" "B" (.int 0) q (Fz g) g.1 g.1.heap) (hv : va_OF "java/lang/String" "value" "[B" (.ref v) q (Fz g) g.1 g.1.heap) (hT : va_T .byte v 3 (fun j => .int (stB u j)) (Fz g) g.1 g.1.heap) : JM l g 1 mJ0_length_8abf5 [.ref q] m (RF (some (.int (nI 3))) m) := by
  refine JM_of (ls := [some (.ref q)]) pn_J0 rfl rfl ?_
  refine j_aloadV0 1 dJ0_length_8abf5_0 rfl ?_
  refine j_getO 4 hv cs_val dJ0_length_8abf5_1 rfl ?_
  refine j_lenT 5 hT dJ0_length_8abf5_4 rfl ?_
  refine j_aloadV0 6 dJ0_length_8abf5_5 rfl ?_
  refine j_vS0 9 dJ0_length_8abf5_6 rfl rfl cv_J0_335 hO rfl (s_coder m q h) ?_
  refine j_ishr 10 dJ0_length_8abf5_9 rfl ?_
  refine j_top (z := nI 3) (by decide) ?_
  refine j_iret dJ0_length_8abf5_10 rfl ?_
  exact ⟨rfl, rfl⟩
set_option maxRecDepth 100000 in
theorem s_can (m : Mem) (c : Nat) (hc : c < 256) : JM l g 0 mJ1_canEncode_9a6ad [.int (nI c)] m (RF (some (.int 1)) m) := by
  refine JM_of (ls := [some (.int (nI c))]) pn_J1 rfl rfl ?_
  refine j_iload0 1 dJ1_canEncode_9a6ad_0 rfl ?_
  refine j_if_lt 15 4 dJ1_canEncode_9a6ad_1 rfl rfl (fun h1 => absurd h1 (nI_pos (by omega))) (fun h1 => ?_)
  refine j_iload0 5 dJ1_canEncode_9a6ad_4 rfl ?_
  refine j_sipush 8 (v := 255) dJ1_canEncode_9a6ad_5 rfl rfl ?_
  refine j_cmp_gt 15 11 dJ1_canEncode_9a6ad_8 rfl rfl (fun h8 => absurd h8 (nI_nlt (a := 255) (b := c) (by omega) (by decide))) (fun h8 => ?_)
  refine j_iconst 12 (v := 1) dJ1_canEncode_9a6ad_11 rfl rfl ?_
  refine j_goto 16 dJ1_canEncode_9a6ad_12 rfl ?_
  refine j_zret (by first | exact bz_01 | exact Or.inl rfl | exact Or.inr rfl | assumption) dJ1_canEncode_9a6ad_16 rfl ?_
  exact ⟨rfl, rfl⟩
set_option maxRecDepth 100000 in
theorem s_loop {Q : Option Value → Mem → Prop} (m : Mem) (v c u : Nat) (hc : c < 256) (hu : u ≤ 1) (hT : va_T .byte v 3 (fun j => .int (stB u j)) (Fz g) g.1 g.1.heap) (x1 x2 : Int32) (k1 : ∀ i, i < 3 → nI c = stB u i → (∀ j, j < i → ¬ nI c = stB u j) → Q (some (.int (nI i))) m) (k0 : (∀ j, j < 3 → ¬ nI c = stB u j) → Q (some (.int (-1))) m) : ∀ (k i : Nat), i + k = 3 → (∀ j, j < i → ¬ nI c = stB u j) → J l g 0 mJ1_indexOfChar_4cfef 7 [some (.ref v), some (.int x1), some (.int x2), some (.int (nI 3)), some (.int (nI c).toInt8.toInt32), some (.int (nI i))] [] m Q := by
  have eqv : ∀ j, j < 3 → (stB u j = (nI c).toInt8.toInt32 ↔ nI c = stB u j) := by
    have q : ∀ b : Nat, b < 256 → ((nI c).toInt8.toInt32 = nI b ↔ c = b) → (nI b = (nI c).toInt8.toInt32 ↔ nI c = nI b) := fun b hb h => ⟨fun z => by rw [h.mp z.symm], fun z => (h.mpr ((nI_eq (by omega) (by omega)).mp z)).symm⟩
    obtain ⟨q1, q2, q3, q4, q5⟩ := ib_eq ⟨c, hc⟩
    intro j hj
    rcases (show u = 0 ∨ u = 1 by omega) with rfl | rfl <;> rcases (show j = 0 ∨ j = 1 ∨ j = 2 by omega) with rfl | rfl | rfl
    · exact q 99 (by decide) q1
    · exact q 100 (by decide) q2
    · exact q 112 (by decide) q3
    · exact q 108 (by decide) q4
    · exact q 115 (by decide) q5
    · exact q 100 (by decide) q2
  intro k
  induction k with
  | zero =>
    intro i e ha
    have e : i = 3 := by omega
    subst e
    refine j_iload5 9 dJ1_indexOfChar_4cfef_7 rfl ?_
    refine j_iload3 10 dJ1_indexOfChar_4cfef_9 rfl ?_
    refine j_cmp_ge 31 13 dJ1_indexOfChar_4cfef_10 rfl rfl (fun h10 => ?_) (fun h10 => absurd (Int32.le_refl _) h10)
    refine j_iconst 32 (v := -1) dJ1_indexOfChar_4cfef_31 rfl rfl ?_
    refine j_iret dJ1_indexOfChar_4cfef_32 rfl ?_
    exact k0 ha
  | succ k ih =>
    intro i e ha
    have e2 : nI i + 1 = nI (i + 1) := nI_1 i
    refine j_iload5 9 dJ1_indexOfChar_4cfef_7 rfl ?_
    refine j_iload3 10 dJ1_indexOfChar_4cfef_9 rfl ?_
    refine j_cmp_ge 31 13 dJ1_indexOfChar_4cfef_10 rfl rfl (fun h10 => absurd h10 (nI_ge (a := i) (b := 3) (by omega) (by decide))) (fun h10 => ?_)
    refine j_aloadV0 14 dJ1_indexOfChar_4cfef_13 rfl ?_
    refine j_iload5 16 dJ1_indexOfChar_4cfef_14 rfl ?_
    refine j_baldT 17 i hT rfl (by omega) dJ1_indexOfChar_4cfef_16 rfl ?_
    refine j_iload4 19 dJ1_indexOfChar_4cfef_17 rfl ?_
    refine j_cmp_ne 25 22 dJ1_indexOfChar_4cfef_19 rfl rfl (fun h19 => ?_) (fun h19 => ?_)
    · refine j_iinc5 28 (1) dJ1_indexOfChar_4cfef_25 rfl rfl rfl rfl ?_
      refine j_goto 7 dJ1_indexOfChar_4cfef_28 rfl ?_
      rw [e2]
      exact ih (i + 1) (by omega) (fun j hj => by
        by_cases q : j = i
        · rw [q]; exact fun z => h19 ((eqv i (by omega)).mpr z)
        · exact ha j (by omega))
    · refine j_iload5 24 dJ1_indexOfChar_4cfef_22 rfl ?_
      refine j_iret dJ1_indexOfChar_4cfef_24 rfl ?_
      exact k1 i (by omega) ((eqv i (by omega)).mp h19) ha
set_option maxRecDepth 100000 in
theorem s_char (m : Mem) (v c u : Nat) (hc : c < 256) (hu : u ≤ 1) (hT : va_T .byte v 3 (fun j => .int (stB u j)) (Fz g) g.1 g.1.heap) : JM l g 0 mJ1_indexOfChar_4cfef [.ref v, .int (nI c), .int 0, .int (nI 3)] m (RF (some (.int (ixF u c))) m) := by
  refine JM_of (ls := [some (.ref v), some (.int (nI c)), some (.int 0), some (.int (nI 3)), none, none]) pn_J1 rfl rfl ?_
  have K := s_loop (l := l) (g := g) (Q := RF (some (.int (ixF u c))) m) m v c u hc hu hT (nI c) 0 (fun i hi h1 h2 => ⟨by
    unfold ixF
    rcases (show i = 0 ∨ i = 1 ∨ i = 2 by omega) with rfl | rfl | rfl
    · rw [if_pos h1]; rfl
    · rw [if_neg (h2 0 (by decide)), if_pos h1]; rfl
    · rw [if_neg (h2 0 (by decide)), if_neg (h2 1 (by decide)), if_pos h1]; rfl, rfl⟩) (fun h => ⟨by unfold ixF; rw [if_neg (h 0 (by decide)), if_neg (h 1 (by decide)), if_neg (h 2 (by decide))], rfl⟩) 3 0 rfl (fun j hj => absurd hj (Nat.not_lt_zero j))
  refine j_iload1 1 dJ1_indexOfChar_4cfef_0 rfl ?_
  refine j_i2b 2 dJ1_indexOfChar_4cfef_1 rfl ?_
  refine j_istore4 4 dJ1_indexOfChar_4cfef_2 rfl rfl rfl ?_
  refine j_iload2 5 dJ1_indexOfChar_4cfef_4 rfl ?_
  refine j_istore5 7 dJ1_indexOfChar_4cfef_5 rfl rfl rfl ?_
  exact K
set_option maxRecDepth 100000 in
theorem s_ixL (m : Mem) (v c u : Nat) (hc : c < 256) (hu : u ≤ 1) (hT : va_T .byte v 3 (fun j => .int (stB u j)) (Fz g) g.1 g.1.heap) : JM l g 1 mJ1_indexOf_4cfef [.ref v, .int (nI c), .int 0, .int (nI 3)] m (RF (some (.int (ixF u c))) m) := by
  refine JM_of (ls := [some (.ref v), some (.int (nI c)), some (.int 0), some (.int (nI 3))]) pn_J1 rfl rfl ?_
  refine j_iload1 1 dJ1_indexOf_4cfef_0 rfl ?_
  refine j_st1f 4 dJ1_indexOf_4cfef_1 rfl rfl cl_J1_88 rfl (s_can m c hc) ?_
  refine j_if_ne 9 7 dJ1_indexOf_4cfef_4 rfl rfl (fun h4 => ?_) (fun h4 => absurd h4 (by decide))
  refine j_iload2 10 dJ1_indexOf_4cfef_9 rfl ?_
  refine j_iconst 11 (v := 0) dJ1_indexOf_4cfef_10 rfl rfl ?_
  refine j_mmax 14 dJ1_indexOf_4cfef_11 rfl rfl cl_J1_92 rfl ?_
  refine j_top (z := 0) (by decide) ?_
  refine j_istore2 15 dJ1_indexOf_4cfef_14 rfl rfl rfl ?_
  refine j_iload3 16 dJ1_indexOf_4cfef_15 rfl ?_
  refine j_aloadV0 17 dJ1_indexOf_4cfef_16 rfl ?_
  refine j_lenT 18 hT dJ1_indexOf_4cfef_17 rfl ?_
  refine j_mmin 21 dJ1_indexOf_4cfef_18 rfl rfl cl_J1_38 rfl ?_
  refine j_top (z := nI 3) (by decide) ?_
  refine j_istore3 22 dJ1_indexOf_4cfef_21 rfl rfl rfl ?_
  refine j_iload2 23 dJ1_indexOf_4cfef_22 rfl ?_
  refine j_iload3 24 dJ1_indexOf_4cfef_23 rfl ?_
  refine j_cmp_lt 29 27 dJ1_indexOf_4cfef_24 rfl rfl (fun h24 => ?_) (fun h24 => absurd (by decide) h24)
  refine j_aloadV0 30 dJ1_indexOf_4cfef_29 rfl ?_
  refine j_iload1 31 dJ1_indexOf_4cfef_30 rfl ?_
  refine j_iload2 32 dJ1_indexOf_4cfef_31 rfl ?_
  refine j_iload3 33 dJ1_indexOf_4cfef_32 rfl ?_
  refine j_st4f 36 dJ1_indexOf_4cfef_33 rfl rfl cl_J1_95 rfl (s_char m v c u hc hu hT) ?_
  refine j_iret dJ1_indexOf_4cfef_36 rfl ?_
  exact ⟨rfl, rfl⟩
set_option maxRecDepth 100000 in
theorem s_ix2 (m : Mem) (q v c u : Nat) (hc : c < 256) (hu : u ≤ 1) (hO : va_O "java/lang/String" q (Fz g) g.1 g.1.heap) (h : va_OF "java/lang/String" "coder" "B" (.int 0) q (Fz g) g.1 g.1.heap) (hv : va_OF "java/lang/String" "value" "[B" (.ref v) q (Fz g) g.1 g.1.heap) (hT : va_T .byte v 3 (fun j => .int (stB u j)) (Fz g) g.1 g.1.heap) : JM l g 2 mJ0_indexOf_7cf53 [.ref q, .int (nI c), .int 0] m (RF (some (.int (ixF u c))) m) := by
  refine JM_of (ls := [some (.ref q), some (.int (nI c)), some (.int 0)]) pn_J0 rfl rfl ?_
  refine j_aloadV0 1 dJ0_indexOf_7cf53_0 rfl ?_
  refine j_vS0 4 dJ0_indexOf_7cf53_1 rfl rfl cv_J0_492 hO rfl (s_lat m q h) ?_
  refine j_if_eq 23 7 dJ0_indexOf_7cf53_4 rfl rfl (fun h4 => absurd h4 (by decide)) (fun h4 => ?_)
  refine j_aloadV0 8 dJ0_indexOf_7cf53_7 rfl ?_
  refine j_getO 11 hv cs_val dJ0_indexOf_7cf53_8 rfl ?_
  refine j_iload1 12 dJ0_indexOf_7cf53_11 rfl ?_
  refine j_iload2 13 dJ0_indexOf_7cf53_12 rfl ?_
  refine j_aloadV0 14 dJ0_indexOf_7cf53_13 rfl ?_
  refine j_vS0 17 dJ0_indexOf_7cf53_14 rfl rfl cv_J0_505 hO rfl (s_len m q v u hO h hv hT) ?_
  refine j_st4f 20 dJ0_indexOf_7cf53_17 rfl rfl cl_J0_637 rfl (s_ixL m v c u hc hu hT) ?_
  refine j_goto 36 dJ0_indexOf_7cf53_20 rfl ?_
  refine j_iret dJ0_indexOf_7cf53_36 rfl ?_
  exact ⟨rfl, rfl⟩
set_option maxRecDepth 100000 in
theorem s_ix (m : Mem) (q v c u : Nat) (hc : c < 256) (hu : u ≤ 1) (hO : va_O "java/lang/String" q (Fz g) g.1 g.1.heap) (h : va_OF "java/lang/String" "coder" "B" (.int 0) q (Fz g) g.1 g.1.heap) (hv : va_OF "java/lang/String" "value" "[B" (.ref v) q (Fz g) g.1 g.1.heap) (hT : va_T .byte v 3 (fun j => .int (stB u j)) (Fz g) g.1 g.1.heap) : JM l g 3 mJ0_indexOf_0f7a4 [.ref q, .int (nI c)] m (RF (some (.int (ixF u c))) m) := by
  refine JM_of (ls := [some (.ref q), some (.int (nI c))]) pn_J0 rfl rfl ?_
  refine j_aloadV0 1 dJ0_indexOf_0f7a4_0 rfl ?_
  refine j_iload1 2 dJ0_indexOf_0f7a4_1 rfl ?_
  refine j_iconst 3 (v := 0) dJ0_indexOf_0f7a4_2 rfl rfl ?_
  refine j_vS2 6 dJ0_indexOf_0f7a4_3 rfl rfl cv_J0_633 hO rfl (s_ix2 m q v c u hc hu hO h hv hT) ?_
  refine j_iret dJ0_indexOf_0f7a4_6 rfl ?_
  exact ⟨rfl, rfl⟩
end O32
