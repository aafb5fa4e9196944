/-! rows of the constructors -/
def okN (N ci n : Nat) : Bool := Nat.blt N 81 && (Nat.beq (tg N) 0 && (Nat.beq (cx N) ci && Nat.beq (ln N) n))
def FPx (own : String) (idx ci k : Nat) (ty : FieldType) (fin : Bool) : Prop := ∃ q : vw_C, cls[ci]? = some q ∧ k < q.2.2 ∧ Cond.fieldLink own idx (q.2.1 k).1 (q.2.1 k).2.1 (q.2.1 k).2.2.1 ∈ lw_gd ∧ (q.2.1 k).2.2.2 = fin ∧ parseFieldDescriptor (q.2.1 k).2.2.1 = some ty ∧ (fin = true → (q.2.1 k).1 = own)
theorem rng_V {n j : Nat} {f : Nat → Value} (h : j < n) : vp_V ((List.range n).map f) j = f j := by
  unfold vp_V
  rw [List.getD_eq_getElem?_getD, List.getElem?_map, List.getElem?_range h]
  rfl
section XH
variable {l : Launch} {g : Gv} {y : MD} {pc : Nat} {ls : List (Option Value)} {st : List Value} {R0 : Room} {c0 s0 N : Nat} {P : Pr} {X : State → Array Value → List Frame → Method → (State → Prop) → Prop}
theorem x_new (pc' : Nat) {i ci : Nat} {q : vw_C} (hdg : decode y.2.1 pc = .ok (.new i, 3)) (hp : pc + 3 = pc') (hq : cls[ci]? = some q) (hcl : Cond.classLink y.1.cls i q.1 ∈ lw_gd) (hin : Cond.instantiable q.1 q.2.2 ∈ lw_gd) (hini : Cond.initialized q.1 ∈ lw_gd) (ho : okN N ci q.2.2 = true) (hdf : ∀ j, j < q.2.2 → (parseFieldDescriptor (q.2.1 j).2.2.1).map defaultValue = some (dv N j)) (hc : Nat.ble (c0 + 1) R0.cells = true) (hs : Nat.ble (s0 + q.2.2) R0.slots = true) (kk : JX l g y (KX g R0 (c0 + 1) (s0 + q.2.2) (N + 1) P X) pc' ls (rf g N :: st)) : JX l g y (KX g R0 c0 s0 N P X) pc ls st := by
  intro p e R s mi args below meth c H locs cells slots Q la C K0 L
  obtain ⟨rfl, ⟨rfl, rfl, hz⟩, r, S, Wm, x⟩ := K0
  subst hp
  simp only [okN, Bool.and_eq_true] at ho
  have o1 := Nat.le_of_ble_eq_true ho.1
  have o2 := Nat.eq_of_beq_eq_true ho.2.1
  have o3 := Nat.eq_of_beq_eq_true ho.2.2.1
  have o4 := Nat.eq_of_beq_eq_true ho.2.2.2
  have hts := C.2.2.2.2.2.1
  have G := C.2.2.2.2.2.2.2.1
  obtain ⟨c1, ⟨ty0, c2⟩, c3⟩ := clsOK hq
  refine va_new (D := gD g) (cl := cls) (tys := tys g) (ws := Wc g N P) (A := Fz g) (H0 := H) (C := q.1) (T := q.2.1) (N := q.2.2) (ci := ci) (fs := (List.range (ln N)).map (dv N)) C.1 C.2.1 hts c1 ty0 c2 C.2.2.2.2.1 (hts _ hcl) (hts _ hin) (hts _ hini) (C.2.2.2.2.2.2.2).K r.1 (Wc_D G r.2.2.2.1.1 P) ⟨Nat.le_refl _, fun _ _ _ => rfl, S⟩ (fun z hz => by show gB g ≤ z; rw [r.2.1] at hz; omega) hq (fun j hj => ?_) (Nat.le_of_ble_eq_true hc) (Nat.le_of_ble_eq_true hs) hdg (fun a H1 p1 d1 s1 => W_sz (fun hsz => ?_))
  · rw [rng_V (by rw [o4]; exact hj)]
    have := hdf j hj
    rw [c2 j hj] at this
    exact Option.some.inj this
  · have he : (.inr (ci, (List.range (ln N)).map (dv N)) : va_E) = cellP g P N := by
      rw [cellP_obj o2, o3]
      congr 2
      apply List.map_congr_left
      intro k hk
      have hk := List.mem_range.mp hk
      unfold vP onP
      rw [r.2.2.2.1.2 N k (Nat.le_refl _)]
      have : Nat.ble (ln N) k = false := by
        cases hh : Nat.ble (ln N) k with
        | false => rfl
        | true => have := Nat.le_of_ble_eq_true hh; omega
      rw [this]
      rfl
    obtain ⟨e1, r1⟩ := RC_new G r o1 p1 d1 s1 (by omega) he
    subst e1
    exact kk p e R s mi args below meth c H1 locs _ _ Q la C ⟨rfl, ⟨rfl, rfl, by omega⟩, r1, S, Wm, x⟩ L
theorem x_put (pc' : Nat) {a i ci k : Nat} {ty : FieldType} {fin : Bool} {x : Value} (hdg : decode y.2.1 pc = .ok (.putfield i, 3)) (hp : pc + 3 = pc') (hf : FPx y.1.cls i ci k ty fin) (ho : okO a ci k = true) (ha : Nat.blt a N = true) (hv : fv g m0 a k = x) (hn : narrow ty x = x) (hfit : fits ty x = true) (hX : ∀ s args below meth Q, X s args below meth Q → meth.name = "<init>") (kk : JX l g y (KX g R0 c0 s0 N (set1 P a k) X) pc' ls st) : JX l g y (KX g R0 c0 s0 N P X) pc ls (x :: rf g a :: st) := by
  intro p e R s mi args below meth c H locs cells slots Q la C K0 L
  obtain ⟨rfl, ⟨rfl, rfl, hz⟩, r, S, Wm, hx⟩ := K0
  subst hp
  subst hv
  obtain ⟨q, h1, h2, h3, h4, h5, h6⟩ := hf
  obtain ⟨o1, o2, o3, o4⟩ := okO_s ho
  obtain ⟨c1, ⟨ty0, c2⟩, c3⟩ := clsOK h1
  have ha := Nat.le_of_ble_eq_true ha
  have hts := C.2.2.2.2.2.1
  have G := C.2.2.2.2.2.2.2.1
  have hgo : ∀ (H1 : Heap) (locs1 : List Loc), va_P (gD g) cls ((Wc g N P).set a (ga g a, .inr (ci, ((List.range (ln a)).map (vP g P a)).set k (fv g m0 a k)))) H1 → va_S (Fz g) H H1 locs1 → W p l e R s mi args below meth c H1 locs1 cells slots Q (F0 mi (pc + 3) la st) := fun H1 locs1 p1 s1 => by
    refine W_sz (fun hsz => ?_)
    have e2 : (Wc g N P).set a (ga g a, .inr (ci, ((List.range (ln a)).map (vP g P a)).set k (fv g m0 a k))) = Wc g N (set1 P a k) := Wc_set ha (by rw [cellP_obj o2, o3, mapP_set o4])
    rw [e2] at p1
    exact kk p e R s mi args below meth c H1 locs1 cells slots Q la C ⟨rfl, ⟨rfl, rfl, hz⟩, RC_st r p1 s1 (by omega) (HI_1 r.2.2.2.1.2 ha), s1.2.2, Wm, hx⟩ L
  have hat : (Wc g N P)[a]? = some (ga g a, .inr (ci, (List.range (ln a)).map (vP g P a))) := by rw [Wc_get g P ha, cellP_obj o2, o3]
  cases fin with
  | false => exact va_put (D := gD g) (cl := cls) (tys := tys g) (ws := Wc g N P) (A := Fz g) (H0 := H) (C := q.1) (T := q.2.1) (N := q.2.2) (ci := ci) (fs := (List.range (ln a)).map (vP g P a)) C.1 C.2.1 hts c1 ty0 c2 c3 C.2.2.2.2.1 (C.2.2.2.2.2.2.2).K r.1 (Wc_D G r.2.2.2.1.1 P) ⟨Nat.le_refl _, fun _ _ _ => rfl, S⟩ a hat h1 k h2 (hts _ h3) (fun _ h => h) h4 h5 hn hfit (by simp; exact o4) hdg (fun H1 locs1 p1 _ s1 => hgo H1 locs1 p1 s1)
  | true => exact va_putF (D := gD g) (cl := cls) (tys := tys g) (ws := Wc g N P) (A := Fz g) (H0 := H) (C := q.1) (T := q.2.1) (N := q.2.2) (ci := ci) (fs := (List.range (ln a)).map (vP g P a)) C.1 C.2.1 hts c1 ty0 c2 c3 C.2.2.2.2.1 (C.2.2.2.2.2.2.2).K r.1 (Wc_D G r.2.2.2.1.1 P) ⟨Nat.le_refl _, fun _ _ _ => rfl, S⟩ a hat h1 k h2 (hts _ h3) (fun _ h => h) h4 (hX _ _ _ _ _ hx) (h6 rfl) h5 hn hfit (by simp; exact o4) hdg (fun H1 locs1 p1 _ s1 => hgo H1 locs1 p1 s1)
theorem x_get (pc' : Nat) {a i ci k b : Nat} (hdg : decode y.2.1 pc = .ok (.getfield i, 3)) (hp : pc + 3 = pc') (hf : FL y.1.cls i ci k) (ho : okO a ci k = true) (ha : Nat.blt a N = true) (hP : P a k = true) (hr : rs a k = b + 1) (kk : JX l g y (KX g R0 c0 s0 N P X) pc' ls (rf g b :: st)) : JX l g y (KX g R0 c0 s0 N P X) pc ls (rf g a :: st) := by
  intro p e R s mi args below meth c H locs cells slots Q la C K0 L
  subst hp
  have K1 := K0
  obtain ⟨rfl, ⟨rfl, rfl, hz⟩, r, S, Wm, hx⟩ := K0
  obtain ⟨q, h1, h2, h3⟩ := hf
  obtain ⟨o1, o2, o3, o4⟩ := okO_s ho
  have ha := Nat.le_of_ble_eq_true ha
  refine va_get (D := gD g) (cl := cls) (tys := tys g) (ws := Wc g N P) (C := q.1) (T := q.2.1) (N := q.2.2) (ci := ci) (fs := (List.range (ln a)).map (vP g P a)) C.1 C.2.1 C.2.2.2.2.2.1 (clsOK h1).1 C.2.2.2.2.1 (C.2.2.2.2.2.2.2).K r.1 a (by rw [Wc_get g P ha, cellP_obj o2, o3]) h1 k h2 (C.2.2.2.2.2.1 _ h3) (fun _ h => h) ?_ hdg (kk p e R s mi args below meth c H locs cells slots Q la C K1 L)
  rw [List.getElem?_map, List.getElem?_range o4]
  show some (vP g P a k) = some (rf g b)
  unfold vP onP
  rw [hP, Bool.true_or, if_pos rfl]
  unfold fv
  rw [hr]
theorem x_iast (pc' : Nat) (i : Nat) {a : Nat} {x v : Int32} (hx : x = nI i) (hi : i < ln a) (hv : v = m0 a i) (hdg : decode y.2.1 pc = .ok (.iastore, 1)) (hp : pc + 1 = pc') (ho : okA a = true) (ha : Nat.blt a N = true) (kk : JX l g y (KX g R0 c0 s0 N (set1 P a i) X) pc' ls st) : JX l g y (KX g R0 c0 s0 N P X) pc ls (.int v :: .int x :: rf g a :: st) := by
  intro p e R s mi args below meth c H locs cells slots Q la C K0 L
  obtain ⟨rfl, ⟨rfl, rfl, hz⟩, r, S, Wm, hx2⟩ := K0
  subst hp
  subst hv
  obtain ⟨o1, o2⟩ := okA_s ho
  obtain ⟨c1, c2⟩ := nI_cl hx hi (ln_lt a)
  have ha := Nat.le_of_ble_eq_true ha
  have G := C.2.2.2.2.2.2.2.1
  refine va_iast (D := gD g) (cl := cls) (tys := tys g) (ws := Wc g N P) (A := Fz g) (H0 := H) (n := ln a) (f := fun k => if onP P a k = true then m0 a k else 0) C.1 C.2.1 (C.2.2.2.2.2.2.2).K r.1 (Wc_D G r.2.2.2.1.1 P) ⟨Nat.le_refl _, fun _ _ _ => rfl, S⟩ a 0 (by rw [Wc_get g P ha, cellP_arr o2]) rfl c1 hdg (fun H1 locs1 p1 _ s1 => W_sz (fun hsz => ?_))
  rw [c2] at p1
  have e2 : (Wc g N P).set a (ga g a, .inl (gc g 0, ln a, .inl (upd (fun k => if onP P a k = true then m0 a k else 0) i (m0 a i)))) = Wc g N (set1 P a i) := by
    refine Wc_set ha ?_
    rw [cellP_arr o2]
    congr 4
    funext j
    by_cases h : j = i
    · subst h
      rw [pk_us, if_pos onP_s]
    · rw [pk_un h, onP_o (fun q => h q.2)]
  rw [e2] at p1
  exact kk p e R s mi args below meth c H1 locs1 cells slots Q la C ⟨rfl, ⟨rfl, rfl, hz⟩, RC_st r p1 s1 (by omega) (HI_1 r.2.2.2.1.2 ha), s1.2.2, Wm, hx2⟩ L
end XH
