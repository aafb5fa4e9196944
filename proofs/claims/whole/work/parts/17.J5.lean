/-! Math.min, Math.max, System.arraycopy -/
def imin (x z : Int32) : Int32 := if z < x then z else x
def imax (x z : Int32) : Int32 := if x < z then z else x
def upR (m : Mem) (b : Nat) (f : Nat → Int32) : Mem := fun c => if c = b then f else m c
def cpy (m : Mem) (a b sp dp n : Nat) : Mem := upR m b (va_cpy (m a) (m b) sp dp n)
theorem Wd_row {g : Gv} {m : Mem} {b : Nat} {f : Nat → Int32} (hb : b < 81) (ht : tg b = 1) : (Wd g m).set b (ga g b, .inl (gc g 0, ln b, .inl f)) = Wd g (upR m b f) := by
  apply List.ext_getElem?
  intro i
  by_cases hi : i < 81
  · rw [Wd_get g _ hi]
    by_cases h : i = b
    · subst h
      rw [List.getElem?_set_self (by unfold Wd; simp; exact hi), cell_arr ht]
      have e : upR m i f i = f := by unfold upR; rw [if_pos rfl]
      rw [e]
    · rw [List.getElem?_set_ne (Ne.symm h), Wd_get g _ hi]
      have e : upR m b f i = m i := by unfold upR; rw [if_neg h]
      have e2 : fv g (upR m b f) i = fv g m i := by funext j; unfold fv; rw [e]
      unfold cellOf
      rw [e, e2]
  · rw [List.getElem?_eq_none (by unfold Wd; simp; omega), List.getElem?_eq_none (by unfold Wd; simp; omega)]
section JX
variable {l : Launch} {g : Gv} {d : Nat} {y : MD} {pc : Nat} {ls : List (Option Value)} {st : List Value} {m : Mem} {Q : Option Value → Mem → Prop}
theorem j_mmin (pc' : Nat) {x z : Int32} {i : Nat} (hdg : decode y.2.1 pc = .ok (.invokestatic i, 3)) (hp : pc + 3 = pc') (hd : Nat.blt 0 d = true) (hc : CSt y.1.cls i mJ9_min_7cf53 2) (hw : Nat.ble (st.map fun v => v.category).sum 8 = true) (kk : J l g d y pc' ls (.int (imin x z) :: st) m Q) : J l g d y pc ls (.int z :: .int x :: st) m Q := by
  intro p e s mi args below meth c H locs la C R S L
  subst hp
  have hts := C.2.2.2.2.2.1
  have h1 := Nat.le_of_ble_eq_true hd
  have h2 := Nat.le_of_ble_eq_true hw
  exact va_mmin C.1 C.2.1 (C.2.2.2.1.trans L.1.symm) C.2.2.2.2.1 (hts _ hc.2.1) (hts _ hc.2.2) (hts _ hc.1.2.1) (hts _ hc.1.1) (by show 1 ≤ d; omega) (by show _ ≤ 40 * d; omega) (Nat.le_refl _) (Nat.le_refl _) hdg (kk p e s mi args below meth c H locs la C R S L)
theorem j_mmax (pc' : Nat) {x z : Int32} {i : Nat} (hdg : decode y.2.1 pc = .ok (.invokestatic i, 3)) (hp : pc + 3 = pc') (hd : Nat.blt 0 d = true) (hc : CSt y.1.cls i mJ9_max_7cf53 2) (hw : Nat.ble (st.map fun v => v.category).sum 8 = true) (kk : J l g d y pc' ls (.int (imax x z) :: st) m Q) : J l g d y pc ls (.int z :: .int x :: st) m Q := by
  intro p e s mi args below meth c H locs la C R S L
  subst hp
  have hts := C.2.2.2.2.2.1
  have h1 := Nat.le_of_ble_eq_true hd
  have h2 := Nat.le_of_ble_eq_true hw
  exact va_mmax C.1 C.2.1 (C.2.2.2.1.trans L.1.symm) C.2.2.2.2.1 (hts _ hc.2.1) (hts _ hc.2.2) (hts _ hc.1.2.1) (hts _ hc.1.1) (by show 1 ≤ d; omega) (by show _ ≤ 40 * d; omega) (Nat.le_refl _) (Nat.le_refl _) hdg (kk p e s mi args below meth c H locs la C R S L)
theorem j_copy (pc' : Nat) (sp dp n : Nat) {a b i : Nat} {xs xd xn : Int32} (h1 : xs = nI sp) (h2 : xd = nI dp) (h3 : xn = nI n) (h4 : sp + n ≤ ln a) (h5 : dp + n ≤ ln b) (hdg : decode y.2.1 pc = .ok (.invokestatic i, 3)) (hp : pc + 3 = pc') (hd : Nat.ble (8 + (nativeFrameWords "java/lang/System" "arraycopy" 5 + 11)) (40 * d) = true) (hc : Cond.methodLink y.1.cls i arraycopyName ∈ lw_gd) (hw : Nat.ble (st.map fun v => v.category).sum 8 = true) (hoa : okA a = true) (hob : okA b = true) (kk : J l g d y pc' ls st (cpy m a b sp dp n) Q) : J l g d y pc ls (.int xn :: .int xd :: rf g b :: .int xs :: rf g a :: st) m Q := by
  intro p e s mi args below meth c H locs la C R S L
  subst hp
  have hts := C.2.2.2.2.2.1
  have g1 := Nat.le_of_ble_eq_true hd
  have g2 := Nat.le_of_ble_eq_true hw
  obtain ⟨o1, o2⟩ := okA_s hoa
  obtain ⟨o3, o4⟩ := okA_s hob
  have la1 := ln_lt a
  have lb1 := ln_lt b
  subst h1; subst h2; subst h3
  have e1 : (nI sp).toNatClampNeg = sp := nI_clamp (by omega)
  have e2 : (nI dp).toNatClampNeg = dp := nI_clamp (by omega)
  have e3 : (nI n).toNatClampNeg = n := nI_clamp (by omega)
  refine va_copyi (D := gD g) (cl := cls) (tys := tys g) (ws := Wd g m) (A := Fz g) (H0 := g.1.heap) (ty := .int) (f := m a) (g := m b) (n0 := ln a) (n1 := ln b) C.1 C.2.1 (C.2.2.2.1.trans L.1.symm) C.2.2.2.2.1 (hts _ hc) (hts _ ac_nat) (hts _ ac_sta) (hts _ ac_ini) (C.2.2.2.2.2.2.2).K R.1 (Wd_D C.2.2.2.2.2.2.2.1 m) (R.S S) a b 0 0 (by rw [Wd_get g m o1, cell_arr o2]) (by rw [Wd_get g m o3, cell_arr o4]) rfl rfl rfl (nI_pos (by omega)) (nI_pos (by omega)) (nI_pos (by omega)) (by rw [e1, e3]; exact h4) (by rw [e2, e3]; exact h5) (fun j _ => rfl) (by show 1 ≤ d; omega) (by show _ ≤ 40 * d; omega) hdg (fun H1 locs1 p1 _ s1 => ?_)
  rw [e1, e2, e3, Wd_row o3 o4] at p1
  obtain ⟨R1, S1⟩ := RH.of p1 s1
  exact kk p e s mi args below meth c H1 locs1 la C R1 S1 L
end JX
