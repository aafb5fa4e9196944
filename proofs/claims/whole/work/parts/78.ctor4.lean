/-! rows of the constructors, on: rows of references -/
theorem va_P_last {D : va_G} {cl : List vw_C} {ws : va_W} {H : Heap} {q : Nat} {e e' : va_E} (h : va_P D cl (ws ++ [(q, e)]) H) (he : va_at D cl (q, e) H → va_at D cl (q, e') H) : va_P D cl (ws ++ [(q, e')]) H := by
  intro k x hx
  by_cases hk : k < ws.length
  · rw [List.getElem?_append_left hk] at hx
    exact h k x (by rw [List.getElem?_append_left hk]; exact hx)
  · rw [List.getElem?_append_right (by omega)] at hx
    have hz : k - ws.length < 1 := (List.getElem?_eq_some_iff.mp hx).1
    have hk2 : k = ws.length := by omega
    subst hk2
    rw [Nat.sub_self] at hx
    cases hx
    exact he (h ws.length (q, e) (by rw [List.getElem?_append_right (Nat.le_refl _), Nat.sub_self]; rfl))
theorem va_D_last {A : Nat → Prop} {ws : va_W} {q : Nat} {e e' : va_E} (h : va_D A (ws ++ [(q, e)])) : va_D A (ws ++ [(q, e')]) := by
  have key : ∀ (k : Nat) (x : Nat × va_E), (ws ++ [(q, e')])[k]? = some x → ∃ x' : Nat × va_E, (ws ++ [(q, e)])[k]? = some x' ∧ x'.1 = x.1 := by
    intro k x hx
    by_cases hk : k < ws.length
    · rw [List.getElem?_append_left hk] at hx
      exact ⟨x, by rw [List.getElem?_append_left hk]; exact hx, rfl⟩
    · rw [List.getElem?_append_right (by omega)] at hx
      have hz : k - ws.length < 1 := (List.getElem?_eq_some_iff.mp hx).1
      have hk2 : k = ws.length := by omega
      subst hk2
      rw [Nat.sub_self] at hx
      cases hx
      exact ⟨(q, e), by rw [List.getElem?_append_right (Nat.le_refl _), Nat.sub_self]; rfl, rfl⟩
  refine ⟨fun i j p r hi hj hpr => ?_, fun k x hx => ?_⟩
  · obtain ⟨p', h1, h2⟩ := key i p hi
    obtain ⟨r', h3, h4⟩ := key j r hj
    exact h.1 i j p' r' h1 h3 (by rw [h2, h4]; exact hpr)
  · obtain ⟨x', h1, h2⟩ := key k x hx
    rw [← h2]
    exact h.2 k x' h1
section XQ
variable {l : Launch} {g : Gv} {y : MD} {pc : Nat} {ls : List (Option Value)} {st : List Value} {R0 : Room} {c0 s0 : Nat} {P : Pr} {X : State → Array Value → List Frame → Method → (State → Prop) → Prop}
theorem x_anew (pc' : Nat) {i : Nat} (hdg : decode y.2.1 pc = .ok (.anewarray i, 3)) (hp : pc + 3 = pc') (hw : Cond.classLink y.1.cls i RX5 ∈ lw_gd) (ho : Cond.arrayOver (.object RX5) ∈ lw_tbl) (hc : Nat.ble (c0 + 1) R0.cells = true) (hs : Nat.ble (s0 + 7) R0.slots = true) (kk : JX l g y (KX g R0 (c0 + 1) (s0 + 7) 2 P X) pc' ls (rf g 1 :: st)) : JX l g y (KX g R0 c0 s0 1 P X) pc ls (.int 7 :: st) := by
  intro p e R s mi args below meth c H locs cells slots Q la C K0 L
  obtain ⟨rfl, ⟨rfl, rfl, hz⟩, r, S, Wm, x⟩ := K0
  subst hp
  have hts := C.2.2.2.2.2.1
  have G := C.2.2.2.2.2.2.2.1
  have hK := (C.2.2.2.2.2.2.2).K
  refine va_newq (D := gD g) (cl := cls) (tys := tys g) (ws := Wc g 1 P) (A := Fz g) (H0 := H) (N' := 7) C.1 C.2.1 C.2.2.2.2.1 (hts _ hw) ((va_AO.of (G.2.2.2.1 _ ho)).moved C.2.2.2.2.2.2.2.2) hK r.1 (Wc_D G r.2.2.2.1.1 P) ⟨Nat.le_refl _, fun _ _ _ => rfl, S⟩ (fun z hz => by show gB g ≤ z; rw [r.2.1] at hz; omega) (by decide) rfl (by decide) (Nat.le_of_ble_eq_true hc) (Nat.le_of_ble_eq_true hs) hdg (fun a cA H1 k1 p1 d1 s1 => W_sz (fun hsz => ?_))
  have hcA : cA = gc g 1 := by
    obtain ⟨_, _, -, -, -, h1⟩ := (k1.2 3 _ rfl).2
    obtain ⟨_, _, -, -, -, h2⟩ := (hK.2 1 _ rfl).2
    exact Option.some.inj (h1.symm.trans h2)
  subst hcA
  have p2 := va_P_last (e' := cellP g P 1) p1 (fun h => by
    rw [cellP_ref rfl]
    show H1[a]? = some (vp_cell _ _)
    have h : H1[a]? = some (vp_cell (gc g 1) (7, .inr (.inr (.inr (.inr (fun _ => none)))))) := h
    rw [h, vp_cell_q, vp_cell_q]
    congr 1
    exact arrV_ext (fun j hj => by rw [off_k (N := 1) r.2.2.2.1.2 hj]; rfl))
  obtain ⟨e1, r1⟩ := RC_new G r (by decide) p2 (va_D_last d1) s1 (by omega) rfl
  subst e1
  exact kk p e R s mi args below meth c H1 locs _ _ Q la C ⟨rfl, ⟨rfl, rfl, by omega⟩, r1, S, Wm, x⟩ L
theorem x_aast (pc' : Nat) {N : Nat} (i b ci : Nat) {x : Int32} {q : vw_C} (hx : x = nI i) (hi : Nat.blt i 7 = true) (hr : rs 1 i = b + 1) (ho : okC b ci = true) (hq : cls[ci]? = some q) (hca : q.1 = RX5 ∨ Cond.castable q.1 RX5 ∈ lw_tbl) (hdg : decode y.2.1 pc = .ok (.aastore, 1)) (hp : pc + 1 = pc') (h1 : Nat.blt 1 N = true) (hb : Nat.blt b N = true) (kk : JX l g y (KX g R0 c0 s0 N (set1 P 1 i) X) pc' ls st) : JX l g y (KX g R0 c0 s0 N P X) pc ls (rf g b :: .int x :: rf g 1 :: st) := by
  intro p e R s mi args below meth c H locs cells slots Q la C K0 L
  obtain ⟨rfl, ⟨rfl, rfl, hz⟩, r, S, Wm, x2⟩ := K0
  subst hp
  have h1 := Nat.le_of_ble_eq_true h1
  have hb := Nat.le_of_ble_eq_true hb
  have hi := Nat.le_of_ble_eq_true hi
  simp only [okC, Bool.and_eq_true] at ho
  have o2 := Nat.eq_of_beq_eq_true ho.2.1
  have o3 := Nat.eq_of_beq_eq_true ho.2.2
  obtain ⟨c1, c2⟩ := nI_cl (n := 7) hx (by omega) (by decide)
  have G := C.2.2.2.2.2.2.2.1
  have hK := (C.2.2.2.2.2.2.2).K
  have hany : va_Any RX5 s H (ga g b) := va_rAny (q0 := b) (ci := ci) (r := q) hK r.1 (by rw [Wc_get g P hb, cellP_obj o2, o3]) hq (fun comp c0 f1 f2 => by
    rcases hca with e | e
    · rw [e] at f2
      exact vb_asgS comp c0 f1 f2
    · refine vb_asgC (C := q.1) (E := RX5) ?_ comp c0 f1 f2
      have h0 := G.2.2.2.1 _ e
      exact va_tabs rfl (rfl : (g.1.setVm s.vm).vm = s.vm) (by rw [Cond.castable_setVm C.2.2.2.2.2.2.2.2]; exact h0))
  refine va_astqM (D := gD g) (cl := cls) (tys := tys g) (ws := Wc g N P) (A := Fz g) (H0 := H) (E := RX5) (n := 7) C.1 C.2.1 hK r.1 (Wc_D G r.2.2.2.1.1 P) ⟨Nat.le_refl _, fun _ _ _ => rfl, S⟩ 1 1 (by rw [Wc_get g P h1, cellP_ref rfl]; rfl) rfl hany c1 hdg (fun H1 locs1 p1 _ s1 => W_sz (fun hsz => ?_))
  rw [c2] at p1
  have e2 : (Wc g N P).set 1 (ga g 1, .inl (gc g 1, 7, .inr (.inr (.inr (.inr (va_up (fun k => if onP P 1 k = true then some (ga g (rs 1 k - 1)) else none) i (some (ga g b)))))))) = Wc g N (set1 P 1 i) := by
    refine Wc_set h1 ?_
    rw [cellP_ref rfl]
    show (Sum.inl (gc g 1, 7, Sum.inr (Sum.inr (Sum.inr (Sum.inr _)))) : va_E) = Sum.inl (gc g 1, 7, Sum.inr (Sum.inr (Sum.inr (Sum.inr _))))
    congr 7
    funext j
    by_cases h : j = i
    · subst h
      rw [va_up_self, if_pos onP_s, hr]
      rfl
    · rw [va_up_ne _ _ h, onP_o (fun q => h q.2)]
  have e3 : va_P (gD g) cls (Wc g N (set1 P 1 i)) H1 := by rw [← e2]; exact p1
  exact kk p e R s mi args below meth c H1 locs1 cells slots Q la C ⟨rfl, ⟨rfl, rfl, hz⟩, RC_st r e3 s1 (by omega) (HI_1 r.2.2.2.1.2 h1), s1.2.2, Wm, x2⟩ L
end XQ
