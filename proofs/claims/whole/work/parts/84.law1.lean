/-! the law's own frame -/
abbrev mL_law : MD := (yL_law, cL_law, 4, ret)
section XA
variable {l : Launch} {g : Gv} {y : MD} {pc : Nat} {ls : List (Option Value)} {st : List Value} {K : Kn}
theorem x_isub (pc' : Nat) {x z : Int32} (hdg : decode y.2.1 pc = .ok (.isub, 1)) (hp : pc + 1 = pc') (kk : JX l g y K pc' ls (.int (x - z) :: st)) : JX l g y K pc ls (.int z :: .int x :: st) := by
  intro p e R s mi args below meth c H locs cells slots Q la C K0 L
  subst hp
  exact lv_isub C.1 C.2.1 hdg (kk p e R s mi args below meth c H locs cells slots Q la C K0 L)
theorem x_iand (pc' : Nat) {x z : Int32} (hdg : decode y.2.1 pc = .ok (.iand, 1)) (hp : pc + 1 = pc') (kk : JX l g y K pc' ls (.int (x &&& z) :: st)) : JX l g y K pc ls (.int z :: .int x :: st) := by
  intro p e R s mi args below meth c H locs cells slots Q la C K0 L
  subst hp
  exact lv_iand C.1 C.2.1 hdg (kk p e R s mi args below meth c H locs cells slots Q la C K0 L)
theorem x_aloadR (pc' : Nat) {b : Nat} {r : List (Option Value)} (hdg : decode y.2.1 pc = .ok (.aload_n 0, 1)) (hp : pc + 1 = pc') (kk : JX l g y K pc' (some (.ref b) :: r) (.ref b :: st)) : JX l g y K pc (some (.ref b) :: r) st := by
  intro p e R s mi args below meth c H locs cells slots Q la C K0 L
  subst hp
  exact lv_aload_n C.1 C.2.1 hdg rfl (lv_rd L (k := 0) rfl) (kk p e R s mi args below meth c H locs cells slots Q la C K0 L)
end XA
def KW (g : Gv) (b L : Nat) (xs : Nat → Int32) (m : Mem) : Kn := fun _ _ R s _ args below _ _ H locs cells slots Q =>
  R = room_1 ∧ (cells ≤ 600 ∧ slots ≤ 70000) ∧ RH g m H ∧ (∀ q ∈ locs, Fz g q.base) ∧ s = g.1 ∧ args = #[Value.ref b] ∧ Q = lw_Z below args s ∧ va_X b L xs g.1 g.1.heap ∧ b < g.1.heap.size
section XL
variable {l : Launch} {g : Gv} {b L : Nat} {xs : Nat → Int32} {m : Mem} {pc : Nat} {ls : List (Option Value)} {st : List Value}
theorem xl_ret (hdg : decode code pc = .ok (.ireturn, 1)) : JX l g mL_law (KW g b L xs m) pc ls [.int 1] := by
  intro p e R s mi args below meth c H locs cells slots Q la C K0 Lv
  obtain ⟨rfl, ⟨h1, h2⟩, hR, S, rfl, rfl, rfl, hX, hb⟩ := K0
  refine va_forget (fun q hq => S q hq) ?_
  refine W.widen (k := 600000) (n := 7302250) (by omega) (by omega) ?_
  exact lw_ret C.1 C.2.1 C.2.2.1 C.2.2.2.2.2.2.1 hdg
theorem xl_len (pc' : Nat) (hdg : decode code pc = .ok (.arraylength, 1)) (hp : pc + 1 = pc') (kk : JX l g mL_law (KW g b L xs m) pc' ls (.int (nI L) :: st)) : JX l g mL_law (KW g b L xs m) pc ls (.ref b :: st) := by
  intro p e R s mi args below meth c H locs cells slots Q la C K0 Lv
  have K1 := K0
  subst hp
  obtain ⟨-, -, hR, S, rfl, -, -, hX, hb⟩ := K0
  exact va_slen (A := Fz g) (H0 := g.1.heap) C.1 C.2.1 hX hb (Nat.not_le.mpr hb) (hR.S S) hdg (kk p e R _ mi args below meth c H locs cells slots Q la C K1 Lv)
theorem xl_ld (pc' i : Nat) {x : Int32} (hx : x = nI i) (hi : i < L) (hL : L ≤ 3072) (hdg : decode code pc = .ok (.iaload, 1)) (hp : pc + 1 = pc') (kk : JX l g mL_law (KW g b L xs m) pc' ls (.int (xs i) :: st)) : JX l g mL_law (KW g b L xs m) pc ls (.int x :: .ref b :: st) := by
  intro p e R s mi args below meth c H locs cells slots Q la C K0 Lv
  have K1 := K0
  subst hp
  obtain ⟨-, -, hR, S, rfl, -, -, hX, hb⟩ := K0
  obtain ⟨c1, c2⟩ := nI_cl hx hi (by omega)
  refine va_sld (A := Fz g) (H0 := g.1.heap) C.1 C.2.1 hX hb (Nat.not_le.mpr hb) (hR.S S) c1 hdg ?_
  rw [c2]
  exact kk p e R _ mi args below meth c H locs cells slots Q la C K1 Lv
theorem xl_call (pc' : Nat) {i a ci d' : Nat} {y' : MD} {As rest : List Value} {r : Int32} {P' : Mem → Prop} (hst : st = As.reverse ++ rf g a :: rest) (hdg : decode code pc = .ok (.invokevirtual i, 3)) (hp : pc + 3 = pc') (hc : CVc RL i ci y' As.length) (ho : okC a ci = true) (hd : d' < 1000) (hw : Nat.ble (rest.map fun v => v.category).sum 8 = true) (hM : JM l g d' y' (rf g a :: As) m (RS (some (.int r)) P')) (kk : ∀ m', P' m' → JX l g mL_law (KW g b L xs m') pc' ls (.int r :: rest)) : JX l g mL_law (KW g b L xs m) pc ls st := by
  intro p e R s mi args below meth c H locs cells slots Q la C K0 Lv T hT Xs
  obtain ⟨rfl, ⟨h1, h2⟩, hR, S, hs, hargs, hQ, hX, hb⟩ := K0
  subst hp
  obtain ⟨⟨hm, hk1, hk2, hk3⟩, q, hq, hqy⟩ := hc
  have hts := C.2.2.2.2.2.1
  have hml := Nat.le_of_ble_eq_true hm.2.2.2
  have hr : va_Run p l e room_1 s mi args below meth c H locs cells slots 0 0 (F0 mi pc la st) rest (JQ g (RS (some (.int r)) P') (Value.ref (ga g a) :: As).toArray) (Fz g) :=
    va_runV (n := As.length) (Ts := lw_gd) (C := y'.1.cls) (b := ga g a) (As := As) ⟨C.1, C.2.1, C.2.2.2.1, C.2.2.2.2.1, hts⟩ hM ⟨callB_of As.length hts (gd_cons hm) rfl rfl rfl (hts _ hm.2.1) (hts _ hk1) hm.2.2.1 (by show d' + 1 ≤ 2048 ∧ 8 + (y'.2.2.1 + 11) + 40 * d' ≤ 84000; omega), hts _ hk2, hts _ hk3⟩ ⟨blind _ m, by rw [← hqy]; exact recv C hR ho hq, fun U hU hW => ⟨rfl, by rw [hU]; exact hR, (C.2.2.2.2.2.2.2).alike hW.alike⟩⟩ rfl rfl Lv.1 hst (lv_room (Nat.le_of_ble_eq_true hw)) hdg ⟨by show cells + 0 ≤ 600000; omega, by show slots + 0 ≤ 7302250; omega⟩
  obtain ⟨v, st₀, t, T', LL, h0, X', hL, e1, e2, ⟨r', m', hv, ⟨hq1, hq2⟩, hR', hG⟩, stp⟩ := hr T hT Xs
  cases hv
  subst hq1
  obtain ⟨t2, a1, b1⟩ := kk m' hq2 p e room_1 s mi args below meth c T'.heap (locs ++ LL) cells slots Q la C ⟨rfl, ⟨h1, h2⟩, by rw [e1]; exact hR', (fun q hq => (List.mem_append.mp hq).elim (S q) (hL q)), hs, hargs, hQ, hX, hb⟩ Lv T' rfl X'
  exact ⟨t2, stp t2 a1, b1⟩
abbrev LZ (g : Gv) (b i : Nat) : List (Option Value) := [some (.ref b), some (rf g 0), some (rf g 68), some (.int (nI i))]
/-- one int of the script's row, read -/
theorem xl_arg (pc' k i : Nat) {kk0 : Int} (d0 : decode code pc = .ok (.aload_n 0, 1)) (d1 : decode code (pc + 1) = .ok (.iload_n 3, 1)) (d2 : decode code (pc + 2) = .ok (.iconst kk0, 1)) (d3 : decode code (pc + 3) = .ok (.iadd, 1)) (d4 : decode code (pc + 4) = .ok (.iaload, 1)) (hp : pc + 5 = pc') (hv : Int32.ofInt kk0 = nI k) (hk : k < 6) (hi : i + 6 ≤ L) (hL : L ≤ 3072) (kk : JX l g mL_law (KW g b L xs m) pc' (LZ g b i) (.int (xs (i + k)) :: st)) : JX l g mL_law (KW g b L xs m) pc (LZ g b i) st := by
  refine x_aloadR (pc + 1) d0 rfl ?_
  refine x_iload3 (pc + 2) d1 rfl ?_
  refine x_iconst (pc + 3) d2 rfl hv ?_
  refine x_iadd (pc + 4) d3 rfl ?_
  exact xl_ld pc' (i + k) (nI_add i k) (by omega) hL d4 hp kk
end XL
