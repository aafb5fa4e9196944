/-! the constructors: cells come one after the other behind the start's heap; P: which slots have got what they hold at the end (m0) -/
abbrev Pr : Type := Nat → Nat → Bool
def m0 : Mem := fun a k =>
  if a = 9 ∨ a = 18 ∨ a = 27 then (if k = 10 then 1 else if k = 11 then 7 else 0)
  else if a = 10 ∨ a = 19 ∨ a = 28 then (if k < 16 then 3 else 0)
  else if a = 11 ∨ a = 20 ∨ a = 29 then (if k < 16 then nI ((k + 1) % 16) else 0)
  else if a = 36 ∨ a = 47 then (if k = 6 then 1 else 0)
  else if a = 39 ∨ a = 50 then (if k = 1 then 9 else 0)
  else if a = 43 ∨ a = 54 then (if k = 1 then 99 else 0)
  else if a = 69 then (if k = 2 then 1 else if k = 3 then 7 else if k = 5 then 1 else if 8 ≤ k ∧ k < 24 then 3 else if 24 ≤ k ∧ k < 40 then nI ((k - 24 + 1) % 16) else 0)
  else 0
def onP (P : Pr) (a k : Nat) : Bool := P a k || Nat.ble (ln a) k
def dv (a k : Nat) : Value := if rs a k = 0 then .int 0 else .null
def vP (g : Gv) (P : Pr) (a k : Nat) : Value := if onP P a k = true then fv g m0 a k else dv a k
def cellP (g : Gv) (P : Pr) (a : Nat) : va_E := if tg a = 0 then .inr (cx a, (List.range (ln a)).map (vP g P a)) else if tg a = 1 then .inl (gc g 0, ln a, .inl (fun k => if onP P a k = true then m0 a k else 0)) else .inl (gc g (cx a), ln a, .inr (.inr (.inr (.inr (fun k => if onP P a k = true then some (ga g (rs a k - 1)) else none)))))
def Wc (g : Gv) (N : Nat) (P : Pr) : va_W := (List.range N).map (fun a => (ga g a, cellP g P a))
def set1 (P : Pr) (a k : Nat) : Pr := fun b j => P b j || (Nat.beq b a && Nat.beq j k)
def setR (P : Pr) (a n : Nat) : Pr := fun b j => P b j || (Nat.ble a b && Nat.blt b (a + n))
def sameD (a k : Nat) : Bool := Nat.beq (rs a k) 0 && (decide (m0 a k = 0) && Nat.blt (tg a) 2)
def RC (g : Gv) (N : Nat) (P : Pr) (H : Heap) : Prop := va_P (gD g) cls (Wc g N P) H ∧ H.size = gB g + N ∧ (∀ q : Nat, q < gB g → H[q]? = g.1.heap[q]?) ∧ (N ≤ 81 ∧ ∀ b j, N ≤ b → P b j = false) ∧ ∀ i : Nat, i < 81 → ga g i = gB g + i
def KX (g : Gv) (R0 : Room) (c0 s0 N : Nat) (P : Pr) (X : State → Array Value → List Frame → Method → (State → Prop) → Prop) : Kn := fun _ _ R s _ args below meth _ H locs cells slots Q =>
  R = R0 ∧ (cells = c0 ∧ slots = s0 ∧ s.heap.size + c0 = gB g + N) ∧ RC g N P H ∧ (∀ q ∈ locs, Fz g q.base) ∧ g.1.WarmedH s.vm ∧ X s args below meth Q
theorem W_sz {p : Program} {l : Launch} {e : Env} {R : Room} {s : State} {m : MethodId} {args : Array Value} {below : List Frame} {meth : Method} {c : Code} {H : Heap} {locs : List Loc} {cells slots : Nat} {Q : State → Prop} {f : JFrame} (h : H.size ≤ s.heap.size + cells → W p l e R s m args below meth c H locs cells slots Q f) : W p l e R s m args below meth c H locs cells slots Q f :=
  fun T hT X => h (by rw [← hT]; exact X.heapSize) T hT X
theorem Wc_get (g : Gv) (P : Pr) {N a : Nat} (h : a < N) : (Wc g N P)[a]? = some (ga g a, cellP g P a) := by
  unfold Wc
  rw [List.getElem?_map, List.getElem?_range h]
  rfl
theorem Wc_len (g : Gv) (P : Pr) (N : Nat) : (Wc g N P).length = N := by unfold Wc; simp
theorem Wc_D {g : Gv} (h : G0 g) {N : Nat} (hN : N ≤ 81) (P : Pr) : va_D (Fz g) (Wc g N P) := by
  have key : ∀ (k : Nat) (q : Nat × va_E), (Wc g N P)[k]? = some q → k < 81 ∧ q.1 = ga g k := by
    intro k q hk
    by_cases hl : k < N
    · rw [Wc_get g P hl] at hk
      cases hk
      exact ⟨by omega, rfl⟩
    · rw [List.getElem?_eq_none (by rw [Wc_len]; omega)] at hk
      cases hk
  refine ⟨fun i j p q hi hj hpq => ?_, fun k q hk => ?_⟩
  · obtain ⟨a1, a2⟩ := key i p hi
    obtain ⟨b1, b2⟩ := key j q hj
    exact h.2.1 i j a1 b1 (by rw [← a2, ← b2]; exact hpq)
  · obtain ⟨a1, a2⟩ := key k q hk
    show gB g ≤ q.1
    rw [a2]
    exact h.2.2.1 k a1
theorem Wc_push (g : Gv) (P : Pr) (N : Nat) : Wc g N P ++ [(ga g N, cellP g P N)] = Wc g (N + 1) P := by
  unfold Wc
  rw [List.range_succ, List.map_append]
  rfl
theorem nbq {a b : Nat} (h : a ≠ b) : Nat.beq a b = false := by
  cases hh : Nat.beq a b with
  | false => rfl
  | true => exact absurd (Nat.eq_of_beq_eq_true hh) h
theorem set1_o {P : Pr} {a k b j : Nat} (h : ¬ (b = a ∧ j = k)) : set1 P a k b j = P b j := by
  unfold set1
  have : (Nat.beq b a && Nat.beq j k) = false := by
    by_cases hb : b = a
    · subst hb
      have : j ≠ k := fun q => h ⟨rfl, q⟩
      have := nbq this
      simp [this]
    · have := nbq hb
      simp [this]
  rw [this, Bool.or_false]
theorem set1_s {P : Pr} {a k : Nat} : set1 P a k a k = true := by unfold set1; simp
theorem onP_o {P : Pr} {a k b j : Nat} (h : ¬ (b = a ∧ j = k)) : onP (set1 P a k) b j = onP P b j := by unfold onP; rw [set1_o h]
theorem onP_s {P : Pr} {a k : Nat} : onP (set1 P a k) a k = true := by unfold onP; rw [set1_s]; rfl
theorem vP_o {g : Gv} {P : Pr} {a k b j : Nat} (h : ¬ (b = a ∧ j = k)) : vP g (set1 P a k) b j = vP g P b j := by unfold vP; rw [onP_o h]
theorem vP_s {g : Gv} {P : Pr} {a k : Nat} : vP g (set1 P a k) a k = fv g m0 a k := by unfold vP; rw [if_pos onP_s]
theorem cellP_o {g : Gv} {P : Pr} {a k b : Nat} (hb : b ≠ a) : cellP g (set1 P a k) b = cellP g P b := by
  have e : vP g (set1 P a k) b = vP g P b := by funext j; exact vP_o (fun h => hb h.1)
  have e2 : ∀ j, onP (set1 P a k) b j = onP P b j := fun j => onP_o (fun h => hb h.1)
  unfold cellP
  rw [e]
  simp only [e2]
theorem Wc_set {g : Gv} {P : Pr} {N a k : Nat} {e : va_E} (ha : a < N) (he : cellP g (set1 P a k) a = e) : (Wc g N P).set a (ga g a, e) = Wc g N (set1 P a k) := by
  apply List.ext_getElem?
  intro i
  by_cases hi : i < N
  · rw [Wc_get g _ hi]
    by_cases h : i = a
    · subst h
      rw [List.getElem?_set_self (by rw [Wc_len]; exact hi), he]
    · rw [List.getElem?_set_ne (Ne.symm h), Wc_get g _ hi, cellP_o h]
  · rw [List.getElem?_eq_none (by rw [List.length_set, Wc_len]; omega), List.getElem?_eq_none (by rw [Wc_len]; omega)]
theorem mapP_set {g : Gv} {P : Pr} {a k n : Nat} (hk : k < n) : ((List.range n).map (vP g P a)).set k (fv g m0 a k) = (List.range n).map (vP g (set1 P a k) a) := by
  apply List.ext_getElem?
  intro i
  by_cases hi : i < n
  · rw [List.getElem?_map, List.getElem?_range hi]
    by_cases h : i = k
    · subst h
      rw [List.getElem?_set_self (by simp; exact hi)]
      show _ = some (vP g (set1 P a i) a i)
      rw [vP_s]
    · rw [List.getElem?_set_ne (Ne.symm h), List.getElem?_map, List.getElem?_range hi]
      show some (vP g P a i) = some (vP g (set1 P a k) a i)
      rw [vP_o (fun q => h q.2)]
  · rw [List.getElem?_eq_none (by simp; omega), List.getElem?_eq_none (by simp; omega)]
theorem cellP_obj {g : Gv} {P : Pr} {a : Nat} (h : tg a = 0) : cellP g P a = .inr (cx a, (List.range (ln a)).map (vP g P a)) := by unfold cellP; rw [if_pos h]
theorem cellP_arr {g : Gv} {P : Pr} {a : Nat} (h : tg a = 1) : cellP g P a = .inl (gc g 0, ln a, .inl (fun k => if onP P a k = true then m0 a k else 0)) := by unfold cellP; rw [if_neg (by omega), if_pos h]
theorem cellP_ref {g : Gv} {P : Pr} {a : Nat} (h : tg a = 2) : cellP g P a = .inl (gc g (cx a), ln a, .inr (.inr (.inr (.inr (fun k => if onP P a k = true then some (ga g (rs a k - 1)) else none))))) := by unfold cellP; rw [if_neg (by omega), if_neg (by omega)]
theorem RC_st {g : Gv} {N : Nat} {P P' : Pr} {H H1 : Heap} {locs1 : List Loc} (r : RC g N P H) (hP : va_P (gD g) cls (Wc g N P') H1) (hS : va_S (Fz g) H H1 locs1) (hz : H1.size ≤ gB g + N) (hi : ∀ b j, N ≤ b → P' b j = false) : RC g N P' H1 :=
  ⟨hP, by have := hS.1; have := r.2.1; omega, fun q hq => (hS.2.1 q (by rw [r.2.1]; omega) (Nat.not_le.mpr hq)).trans (r.2.2.1 q hq), ⟨r.2.2.2.1.1, hi⟩, r.2.2.2.2⟩
theorem HI_1 {N : Nat} {P : Pr} (h : ∀ b j, N ≤ b → P b j = false) {a k : Nat} (ha : a < N) : ∀ b j, N ≤ b → set1 P a k b j = false := fun b j hb => by rw [set1_o (fun q => by omega)]; exact h b j hb
/-- a new cell lies right behind the others -/
theorem RC_new {g : Gv} (G : G0 g) {N : Nat} {P : Pr} {H H1 : Heap} {locs : List Loc} {q : Nat} {e : va_E} (r : RC g N P H) (h81 : N < 81) (hP : va_P (gD g) cls (Wc g N P ++ [(q, e)]) H1) (hD : va_D (Fz g) (Wc g N P ++ [(q, e)])) (hS : va_S (Fz g) H H1 locs) (hz : H1.size ≤ gB g + (N + 1)) (he : e = cellP g P N) : q = ga g N ∧ RC g (N + 1) P H1 := by
  obtain ⟨r1, r2, r3, ⟨r4, r5⟩, r6⟩ := r
  have hat : (Wc g N P ++ [(q, e)])[N]? = some (q, e) := by rw [List.getElem?_append_right (by rw [Wc_len]; exact Nat.le_refl _), Wc_len, Nat.sub_self]; rfl
  have h1 : q < H1.size := (hP N _ hat).lt
  have h2 : gB g ≤ q := hD.2 N _ hat
  have h3 : q = gB g + N := by
    by_cases hq : q = gB g + N
    · exact hq
    · exfalso
      have hlt : q - gB g < N := by omega
      have := hD.1 N (q - gB g) (q, e) (ga g (q - gB g), cellP g P (q - gB g)) hat (by rw [List.getElem?_append_left (by rw [Wc_len]; exact hlt)]; exact Wc_get g P hlt) (by show q = ga g (q - gB g); rw [r6 _ (by omega)]; omega)
      omega
  have h4 : q = ga g N := by rw [h3, r6 N h81]
  refine ⟨h4, ?_, by omega, fun x hx => (hS.2.1 x (by rw [r2]; omega) (Nat.not_le.mpr hx)).trans (r3 x hx), ⟨by omega, fun b j hb => r5 b j (by omega)⟩, r6⟩
  rw [← Wc_push, ← h4, ← he]
  exact hP
