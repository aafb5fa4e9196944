/-! rows of the constructors, on: arrays, calls, the end -/
theorem arrV_ext {cA : ClassId} {n : Nat} {f h : Nat → Value} (e : ∀ j, j < n → f j = h j) : arrV cA n f = arrV cA n h := by
  have : (Array.ofFn (n := n) fun j => f j.val) = Array.ofFn (n := n) fun j => h j.val := by
    congr 1
    funext j
    exact e j.val j.isLt
  show ({ cls := cA, slots := Array.ofFn (n := n) fun j => f j.val, vm := .none } : Cell) = _
  rw [this]
  rfl
theorem off_k {P : Pr} {N : Nat} (h : ∀ b j, N ≤ b → P b j = false) {k : Nat} (hk : k < ln N) : onP P N k = false := by
  unfold onP
  rw [h N k (Nat.le_refl _)]
  cases hh : Nat.ble (ln N) k with
  | false => rfl
  | true => have := Nat.le_of_ble_eq_true hh; omega
def rmC (d kc ks : Nat) : Room := { frames := d, cells := kc, slots := ks, locals := 40 * d }
def JQC (g : Gv) (N : Nat) (P : Pr) : Array Value → State → Outcome → State → Prop := fun _ _ oc t => oc = .returned none ∧ RC g N P t.heap ∧ GV g t
def JMc (l : Launch) (g : Gv) (d kc ks : Nat) (y : MD) (as : List Value) (N : Nat) (P : Pr) (N' : Nat) (P' : Pr) : Prop :=
  Met l y.1 (.code y.1 y.2.1 y.2.2.1 y.2.2.2 :: lw_gd) (rmC d kc ks) (va_Pc as (fun U => RC g N P U.heap ∧ GV g U ∧ g.1.WarmedH U.vm)) (JQC g N' P') kc ks (Fz g)
def XI (g : Gv) (kc ks N' : Nat) (P' : Pr) : State → Array Value → List Frame → Method → (State → Prop) → Prop := fun s args below meth Q => meth.name = "<init>" ∧ Q = MQ below (JQC g N' P') args s kc ks (Fz g)
theorem XI_n {g : Gv} {kc ks N' : Nat} {P' : Pr} : ∀ s args below meth Q, XI g kc ks N' P' s args below meth Q → meth.name = "<init>" := fun _ _ _ _ _ h => h.1
section XG
variable {l : Launch} {g : Gv} {y : MD} {pc : Nat} {ls : List (Option Value)} {st : List Value} {R0 : Room} {c0 s0 N : Nat} {P : Pr} {X : State → Array Value → List Frame → Method → (State → Prop) → Prop}
theorem x_newa (pc' : Nat) {n : Int32} (hn : n = nI (ln N)) (hdg : decode y.2.1 pc = .ok (.newarray .int, 2)) (hp : pc + 2 = pc') (hw : Cond.arrayClass .int ∈ lw_gd) (ho : okA N = true) (hc : Nat.ble (c0 + 1) R0.cells = true) (hs : Nat.ble (s0 + ln N) R0.slots = true) (kk : JX l g y (KX g R0 (c0 + 1) (s0 + ln N) (N + 1) P X) pc' ls (rf g N :: st)) : JX l g y (KX g R0 c0 s0 N P X) pc ls (.int n :: st) := by
  intro p e R s mi args below meth c H locs cells slots Q la C K0 L
  obtain ⟨rfl, ⟨rfl, rfl, hz⟩, r, S, Wm, x⟩ := K0
  subst hp
  subst hn
  obtain ⟨o1, o2⟩ := okA_s ho
  have hts := C.2.2.2.2.2.1
  have G := C.2.2.2.2.2.2.2.1
  have hK := (C.2.2.2.2.2.2.2).K
  refine va_newa (atype := .int) (D := gD g) (cl := cls) (tys := tys g) (ws := Wc g N P) (A := Fz g) (H0 := H) (a0 := (ln N, .inl (fun k => if onP P N k = true then m0 N k else 0))) C.1 C.2.1 (hts _ hw) rfl hK r.1 (Wc_D G r.2.2.2.1.1 P) ⟨Nat.le_refl _, fun _ _ _ => rfl, S⟩ (fun z hz => by show gB g ≤ z; rw [r.2.1] at hz; omega) (fun cA => ?_) (Int32.not_lt.mpr (nI_pos' (ln_lt N))) (nI_clamp (ln_lt N)) ?_ (Nat.le_of_ble_eq_true hc) (Nat.le_of_ble_eq_true hs) hdg (fun a cA H1 k1 p1 d1 s1 => W_sz (fun hsz => ?_))
  · rw [vp_cell_i]
    exact arrV_ext (fun j hj => by rw [off_k r.2.2.2.1.2 hj]; rfl)
  · have : ln N < 1000 := by
      have h : ∀ q ∈ plan, q.2.2 < 1000 := by decide +kernel
      unfold ln
      by_cases ha : N < plan.length
      · have := h _ (List.getElem_mem ha)
        rw [List.getD_eq_getElem?_getD, List.getElem?_eq_getElem ha]
        exact this
      · rw [List.getD_eq_getElem?_getD, List.getElem?_eq_none (by omega)]
        decide
    show ln N * 4 ≤ _
    omega
  · have hcA : cA = gc g 0 := by
      have h1 : s.vm.findClass ("[" ++ FieldType.int.toString) = some cA := (k1.2 3 _ rfl).2
      have h2 : s.vm.findClass ("[" ++ FieldType.int.toString) = some (gc g 0) := (hK.2 0 _ rfl).2
      exact Option.some.inj (h1.symm.trans h2)
    subst hcA
    obtain ⟨e1, r1⟩ := RC_new G r o1 p1 d1 s1 (by omega) (cellP_arr o2).symm
    subst e1
    exact kk p e R s mi args below meth c H1 locs _ _ Q la C ⟨rfl, ⟨rfl, rfl, by omega⟩, r1, S, Wm, x⟩ L
theorem x_objI (pc' : Nat) {i a : Nat} (hdg : decode y.2.1 pc = .ok (.invokespecial i, 3)) (hp : pc + 3 = pc') (h1 : Cond.methodLink y.1.cls i Lib.objectInit ∈ lw_gd) (h2 : Cond.instanceMethod Lib.objectInit ∈ lw_gd) (h3 : Cond.code Lib.objectInit ⟨#[0xb1]⟩ 1 none ∈ lw_gd) (hf : Nat.ble 1 R0.frames = true) (hl : Nat.ble ((st.map fun v => v.category).sum + 12) R0.locals = true) (kk : JX l g y (KX g R0 c0 s0 N P X) pc' ls st) : JX l g y (KX g R0 c0 s0 N P X) pc ls (rf g a :: st) := by
  intro p e R s mi args below meth c H locs cells slots Q la C K0 L
  subst hp
  have hts := C.2.2.2.2.2.1
  have hR := K0.1
  subst hR
  exact W.objInit C.1 C.2.1 C.2.2.2.2.1 (hts _ h1) (hts _ h2) (hts _ h3) rfl (by rw [C.2.2.2.1]; exact L.1) rfl hdg (Nat.le_of_ble_eq_true hf) (by have := Nat.le_of_ble_eq_true hl; simpa [JFrame.monitorRoom] using this) (kk p e R s mi args below meth c H locs cells slots Q la C K0 L)
theorem cellP_eq {P' : Pr} {a : Nat} (h : ∀ k, k < ln a → P a k = P' a k ∨ sameD a k = true) : cellP g P a = cellP g P' a := by
  have key : ∀ k, onP P a k = onP P' a k ∨ (k < ln a ∧ sameD a k = true) := fun k => by
    by_cases hk : k < ln a
    · rcases h k hk with e | e
      · left; unfold onP; rw [e]
      · exact Or.inr ⟨hk, e⟩
    · left
      have : Nat.ble (ln a) k = true := Nat.ble_eq_true_of_le (by omega)
      unfold onP
      rw [this, Bool.or_true, Bool.or_true]
  have k2 : ∀ k, onP P a k = onP P' a k ∨ (rs a k = 0 ∧ m0 a k = 0 ∧ tg a < 2) := fun k => by
    rcases key k with e | ⟨-, e⟩
    · exact Or.inl e
    · simp only [sameD, Bool.and_eq_true, decide_eq_true_eq] at e
      exact Or.inr ⟨Nat.eq_of_beq_eq_true e.1, e.2.1, Nat.le_of_ble_eq_true e.2.2⟩
  have hv : vP g P a = vP g P' a := by
    funext k
    unfold vP
    rcases k2 k with e | ⟨e1, e2, -⟩
    · rw [e]
    · have : fv g m0 a k = dv a k := by
        unfold fv dv
        rw [e1, if_pos rfl, e2]
      rw [this, ite_self, ite_self]
  have hi : (fun k => if onP P a k = true then m0 a k else 0) = (fun k => if onP P' a k = true then m0 a k else 0) := by
    funext k
    rcases k2 k with e | ⟨e1, e2, -⟩
    · rw [e]
    · rw [e2, ite_self, ite_self]
  unfold cellP
  rw [hv, hi]
  by_cases h2 : tg a < 2
  · by_cases h0 : tg a = 0
    · rw [if_pos h0, if_pos h0]
    · rw [if_neg h0, if_neg h0, if_pos (by omega), if_pos (by omega)]
  · have : ∀ k, onP P a k = onP P' a k := fun k => by
      rcases k2 k with e | ⟨-, -, e⟩
      · exact e
      · exact absurd e h2
    simp only [this]
theorem Wc_eq {P' : Pr} (h : ∀ a, a < N → ∀ k, k < ln a → P a k = P' a k ∨ sameD a k = true) : Wc g N P = Wc g N P' := by
  unfold Wc
  apply List.map_congr_left
  intro a ha
  rw [cellP_eq (h a (List.mem_range.mp ha))]
theorem x_eq (P' : Pr) (h : ∀ a, a < N → ∀ k, k < ln a → P a k = P' a k ∨ sameD a k = true) (hi : ∀ b j, N ≤ b → P' b j = false) (kk : JX l g y (KX g R0 c0 s0 N P' X) pc ls st) : JX l g y (KX g R0 c0 s0 N P X) pc ls st := by
  refine kk.mono (fun p e R s mi args below meth c H locs cells slots Q K0 => ?_)
  obtain ⟨h1, h2, ⟨r1, r2, r3, ⟨r4, r5⟩, r6⟩, h3⟩ := K0
  exact ⟨h1, h2, ⟨by rw [← Wc_eq h]; exact r1, r2, r3, ⟨r4, hi⟩, r6⟩, h3⟩
theorem x_vret {kc ks : Nat} (hdg : decode y.2.1 pc = .ok (.return_, 1)) (hr : y.2.2.2 = none) : JX l g y (KX g R0 kc ks N P (XI g kc ks N P)) pc ls [] := by
  intro p e R s mi args below meth c H locs cells slots Q la C K0 L
  obtain ⟨rfl, ⟨rfl, rfl, hz⟩, r, S, Wm, -, rfl⟩ := K0
  exact W.vret (hlocks := C.2.2.2.2.2.2.1) C.1 C.2.1 (C.2.2.1.trans hr) (fun t ht hW => ⟨rfl, by rw [ht]; exact r, (C.2.2.2.2.2.2.2).alike hW.alike⟩) S hdg
theorem JMc_of {d kc ks N' : Nat} {P' : Pr} {as : List Value} (hy : plainName y.1.cls = true) (hin : y.1.name = "<init>") (hn : Nat.ble (lg_sl as).length y.2.2.1 = true) (hl : lvl 0 ls = lv_args 0 as) (kk : JX l g y (KX g (rmC d kc ks) 0 0 N P (XI g kc ks N' P')) 0 ls []) : JMc l g d kc ks y as N P N' P' := by
  refine Met.ofW (cc := y.2.1) (maxL := y.2.2.1) (ret := y.2.2.2) hy rfl ?_
  intro p e s mi args below meth c s₁ B hml hv
  obtain ⟨rfl, hR, hG, hW⟩ := hv
  have h0 := lv_entry as (n := y.2.2.1) (Nat.le_of_ble_eq_true hn)
  rw [← hl] at h0
  rw [lg_entry_eq]
  have hts := atoms_spec (ws := .code y.1 y.2.1 y.2.2.1 y.2.2.2 :: lw_gd) B.pre
  exact kk p e _ s mi _ below meth c s.heap [] 0 0 _ _ ⟨B.exec, B.bytes, B.returns, hml, findClass_of_methodNamed B.named, fun w h => hts w (List.mem_cons_of_mem _ h), B.notSynchronized, hG⟩ ⟨rfl, ⟨rfl, rfl, by rw [hR.2.1, Nat.add_zero]⟩, hR, (fun q h => by cases h), hW, ((name_of_methodNamed B.named B.method).1).trans hin, rfl⟩ h0
/-- a constructor's call, its room and links -/
def CIn (own : String) (i : Nat) (y : MD) (n : Nat) : Prop := MI y n ∧ y.1.name = "<init>" ∧ y.2.2.2 = none ∧ Cond.instanceMethod y.1 ∈ lw_gd ∧ (Cond.methodLink own i y.1 ∈ lw_gd ∨ ∃ host, Cond.methodLinkNest own i y.1 host ∈ lw_tbl)
theorem x_call (pc' : Nat) {i a d' kc ks N' : Nat} {P' : Pr} {y' : MD} {As rest : List Value} (hst : st = As.reverse ++ rf g a :: rest) (hdg : decode y.2.1 pc = .ok (.invokespecial i, 3)) (hp : pc + 3 = pc') (hc : CIn y.1.cls i y' As.length) (hfr : Nat.ble (d' + 1) R0.frames = true) (hlo : Nat.ble (8 + (y'.2.2.1 + 11) + 40 * d') R0.locals = true) (hce : Nat.ble (c0 + kc) R0.cells = true) (hsl : Nat.ble (s0 + ks) R0.slots = true) (hw : Nat.ble (rest.map fun v => v.category).sum 8 = true) (hM : JMc l g d' kc ks y' (rf g a :: As) N P N' P') (hN : N' = N + kc) (kk : JX l g y (KX g R0 (c0 + kc) (s0 + ks) N' P' X) pc' ls rest) : JX l g y (KX g R0 c0 s0 N P X) pc ls st := by
  intro p e R s mi args below meth c H locs cells slots Q la C K0 L T hT Xs
  obtain ⟨rfl, ⟨rfl, rfl, hz⟩, r, S, Wm, x⟩ := K0
  subst hp
  obtain ⟨hm, hin, hrt, hi1, hlk⟩ := hc
  have hts := C.2.2.2.2.2.1
  have G := C.2.2.2.2.2.2.2.1
  obtain ⟨y1, y2, y3, y4⟩ := y'
  have hrt : y4 = none := hrt
  subst hrt
  have hpre : PreS s H (va_Pc (rf g a :: As) (fun U => RC g N P U.heap ∧ GV g U ∧ g.1.WarmedH U.vm)) (.ref (ga g a) :: As) := ⟨fun _ _ _ _ h => h, fun U hU hW => ⟨rfl, by rw [hU]; exact r, (C.2.2.2.2.2.2.2).alike hW.alike, State.WarmedH.trans Wm hW⟩⟩
  have hr : va_Run p l e R s mi args below meth c H locs cells slots kc ks (F0 mi pc la st) rest (JQC g N' P' (Value.ref (ga g a) :: As).toArray) (Fz g) := by
    rcases hlk with hlk | ⟨host, hlk⟩
    · exact va_runI (n := As.length) (Ts := lw_gd) (b := ga g a) (As := As) (bytes := y2) (maxL := y3) ⟨C.1, C.2.1, C.2.2.2.1, C.2.2.2.2.1, hts⟩ hM ⟨callB_of As.length hts (gd_cons hm) rfl rfl rfl (hts _ hm.2.1) (hts _ hlk) hm.2.2.1 ⟨Nat.le_of_ble_eq_true hfr, Nat.le_of_ble_eq_true hlo⟩, hin, hts _ hi1⟩ hpre rfl rfl L.1 hst (lv_room (Nat.le_of_ble_eq_true hw)) hdg ⟨Nat.le_of_ble_eq_true hce, Nat.le_of_ble_eq_true hsl⟩
    · exact va_runIN (n := As.length) (Ts := lw_gd) (b := ga g a) (As := As) (bytes := y2) (maxL := y3) (host := host) ⟨C.1, C.2.1, C.2.2.2.1, C.2.2.2.2.1, hts⟩ hM ⟨va_cnB As.length hts (gd_cons hm) rfl rfl rfl (va_Nw.warmM Wm (va_Nw.of rfl (G.2.2.2.1 _ hlk))) (hts _ hm.2.1) hm.2.2.1 ⟨Nat.le_of_ble_eq_true hfr, Nat.le_of_ble_eq_true hlo⟩, hin, hts _ hi1⟩ hpre rfl rfl L.1 hst (lv_room (Nat.le_of_ble_eq_true hw)) hdg ⟨Nat.le_of_ble_eq_true hce, Nat.le_of_ble_eq_true hsl⟩
  obtain ⟨v, st₀, t, T', LL, h0, X', hL, e1, e2, ⟨hv, hR, hG⟩, stp⟩ := hr T hT Xs
  cases hv
  obtain ⟨t2, a1, b1⟩ := kk p e R s mi args below meth c T'.heap (locs ++ LL) _ _ Q la C ⟨rfl, ⟨rfl, rfl, by omega⟩, by rw [e1]; exact hR, (fun q hq => (List.mem_append.mp hq).elim (S q) (hL q)), Wm, x⟩ L T' rfl X'
  exact ⟨t2, stp t2 a1, b1⟩
theorem x_ldcS (pc' : Nat) {i a : Nat} {tx : String} (hdg : decode y.2.1 pc = .ok (.ldc i, 2)) (hp : pc + 2 = pc') (hw : Cond.stringRef y.1.cls i tx ∈ lw_tbl) (ha : (Term.string y.1.cls i).eval #[] g.1 none [] g.1 = some (.ref (ga g a))) (kk : JX l g y (KX g R0 c0 s0 N P X) pc' ls (rf g a :: st)) : JX l g y (KX g R0 c0 s0 N P X) pc ls st := by
  intro p e R s mi args below meth c H locs cells slots Q la C K0 L
  subst hp
  exact va_ldcS C.1 C.2.1 C.2.2.2.2.1 (vk_R.warm K0.2.2.2.2.1 ⟨C.2.2.2.2.2.2.2.1.2.2.2.1 _ hw, ha⟩) hdg (kk p e R s mi args below meth c H locs cells slots Q la C K0 L)
end XG
