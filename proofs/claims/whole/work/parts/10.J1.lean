/-! THE LAYER J: the heap of both objects as one table of ints m : cell -> slot -> Int32; which cells there are and which slots hold references is fixed (plan, rsT). -/
abbrev MD : Type := MethodName × ByteArray × Nat × Option FieldType
abbrev Mem : Type := Nat → Nat → Int32
abbrev Gv : Type := State × (Nat → ClassId) × (Nat → Nat → Nat) × (Nat → ClassId) × (Nat → Nat)
abbrev gB (g : Gv) : Nat := g.1.heap.size
abbrev gD (g : Gv) : va_G := (g.2.1, g.2.2.1)
abbrev gc (g : Gv) : Nat → ClassId := g.2.2.2.1
abbrev ga (g : Gv) : Nat → Nat := g.2.2.2.2
def rf (g : Gv) (a : Nat) : Value := .ref (ga g a)
/-- a cell: 0 an object (its class, its fields), 1 an int array (its length), 2 an array of references (its class among gc, its length) -/
def plan : List (Nat × Nat × Nat) := [(0, 11, 11), (2, 1, 7), (0, 5, 0), (0, 7, 0), (0, 1, 0), (0, 0, 0), (0, 3, 0), (0, 2, 0), (0, 4, 0),
  (0, 10, 14), (1, 0, 16), (1, 0, 16), (1, 0, 8), (1, 0, 8), (1, 0, 8), (1, 0, 8), (1, 0, 8), (1, 0, 8),
  (0, 10, 14), (1, 0, 16), (1, 0, 16), (1, 0, 8), (1, 0, 8), (1, 0, 8), (1, 0, 8), (1, 0, 8), (1, 0, 8),
  (0, 10, 14), (1, 0, 16), (1, 0, 16), (1, 0, 8), (1, 0, 8), (1, 0, 8), (1, 0, 8), (1, 0, 8), (1, 0, 8),
  (0, 8, 7), (1, 0, 50), (1, 0, 20), (0, 6, 9), (1, 0, 50), (1, 0, 50), (1, 0, 50), (0, 6, 9), (1, 0, 50), (1, 0, 50), (1, 0, 50),
  (0, 8, 7), (1, 0, 50), (1, 0, 20), (0, 6, 9), (1, 0, 50), (1, 0, 50), (1, 0, 50), (0, 6, 9), (1, 0, 50), (1, 0, 50), (1, 0, 50),
  (0, 9, 4), (1, 0, 40), (2, 2, 4), (1, 0, 40), (1, 0, 40), (1, 0, 40), (1, 0, 40), (1, 0, 4), (1, 0, 4), (1, 0, 6),
  (0, 12, 22), (1, 0, 260), (1, 0, 260), (1, 0, 88), (1, 0, 6), (1, 0, 3), (1, 0, 60), (1, 0, 60), (1, 0, 40), (1, 0, 4), (1, 0, 4), (1, 0, 160), (1, 0, 40)]
/-- the slots that hold references: 1 more than the cell that they name (101, 102: the two Strings) -/
def rsT : List (List Nat) := [[10, 19, 28, 37, 48, 59, 61, 66, 67, 68, 0], [3, 4, 5, 6, 7, 8, 9], [], [], [], [], [], [], [],
  [2, 11, 12, 13, 14, 15, 16, 17, 18, 0, 0, 0, 0, 0], [], [], [], [], [], [], [], [],
  [2, 20, 21, 22, 23, 24, 25, 26, 27, 0, 0, 0, 0, 0], [], [], [], [], [], [], [], [],
  [2, 29, 30, 31, 32, 33, 34, 35, 36, 0, 0, 0, 0, 0], [], [], [], [], [], [], [], [],
  [38, 39, 40, 44, 0, 0, 0], [], [], [101, 0, 41, 0, 42, 43, 0, 0, 0], [], [], [], [102, 0, 45, 0, 46, 47, 0, 0, 0], [], [], [],
  [49, 50, 51, 55, 0, 0, 0], [], [], [101, 0, 52, 0, 53, 54, 0, 0, 0], [], [], [], [102, 0, 56, 0, 57, 58, 0, 0, 0], [], [], [],
  [60, 0, 0, 0], [], [62, 63, 64, 65], [], [], [], [], [], [], [],
  [70, 71, 72, 0, 73, 0, 0, 0, 0, 0, 0, 74, 75, 0, 76, 77, 0, 0, 78, 79, 80, 81], [], [], [], [], [], [], [], [], [], [], [], []]
def tg (a : Nat) : Nat := (plan.getD a (9, 0, 0)).1
def cx (a : Nat) : Nat := (plan.getD a (9, 0, 0)).2.1
def ln (a : Nat) : Nat := (plan.getD a (9, 0, 0)).2.2
def rs (a k : Nat) : Nat := (rsT.getD a []).getD k 0
def fv (g : Gv) (m : Mem) (a k : Nat) : Value := match rs a k with
  | 0 => .int (m a k)
  | c + 1 => rf g c
def cellOf (g : Gv) (m : Mem) (a : Nat) : va_E := if tg a = 0 then .inr (cx a, (List.range (ln a)).map (fv g m a)) else if tg a = 1 then .inl (gc g 0, ln a, .inl (m a)) else .inl (gc g (cx a), ln a, .inr (.inr (.inr (.inr (fun k => some (ga g (rs a k - 1)))))))
def Wd (g : Gv) (m : Mem) : va_W := (List.range 81).map (fun a => (ga g a, cellOf g m a))
def cls : List vw_C := [(RX0, TX0, 0), (RX1, TX1, 0), (RX2, TX2, 0), (RX3, TX3, 0), (RX4, TX4, 0), (RX5, TX5, 0), (RX6, TX6, 9), (RX7, TX7, 0), (RX8, TX8, 7), (RX9, TX9, 4), (RX10, TX10, 14), (RX11, TX11, 11), (RX12, TX12, 22)]
def tys (g : Gv) : List (ClassId × FieldType) := [(gc g 0, .int), (gc g 1, .object RX5), (gc g 2, .array .int)]
def up2 (m : Mem) (a k : Nat) (v : Int32) : Mem := fun b j => if b = a ∧ j = k then v else m b j
/-- what is fixed in the run: classes, where cells lie; what the start says of Strings and statics is asked of g.1 -/
def G0 (g : Gv) : Prop := va_K (gD g) cls (tys g) g.1 ∧ (∀ i j : Nat, i < 81 → j < 81 → ga g i = ga g j → i = j) ∧ (∀ i : Nat, i < 81 → gB g ≤ ga g i) ∧ (∀ w ∈ lw_tbl, w.before #[] g.1 = true) ∧ (∃ a : Array Value, (Jvm.Cond.and given_1 narrow_1).before a g.1 = true) ∧ (Term.string RX8 20).eval #[] g.1 none [] g.1 = some (.ref (ga g 100)) ∧ (Term.string RX8 29).eval #[] g.1 none [] g.1 = some (.ref (ga g 101)) ∧ (Term.static "DustSills" "ABOVE" "[I").eval #[] g.1 none [] g.1 = some (.ref (ga g 102))
def GV (g : Gv) (U : State) : Prop := G0 g ∧ g.1.vm.Alike U.vm
def RH (g : Gv) (m : Mem) (H : Heap) : Prop := va_P (gD g) cls (Wd g m) H ∧ gB g ≤ H.size ∧ ∀ q : Nat, q < gB g → H[q]? = g.1.heap[q]?
def lvl : Nat → List (Option Value) → List (Nat × Value)
  | _, [] => []
  | i, none :: r => lvl (i + 1) r
  | i, some v :: r => (i, v) :: lvl (i + 1) r
/-- the words that stay good over a call -/
def lw_gd : List Cond := lw_tbl.filter goodWord
theorem gd {w : Cond} (h : w ∈ lw_tbl) (hg : goodWord w = true) : w ∈ lw_gd := List.mem_filter.mpr ⟨h, hg⟩
theorem gd_in : GoodIn lw_gd lw_gd := fun w h => ⟨h, good_of_word (List.mem_filter.mp h).2⟩
def Cx (g : Gv) (y : MD) (p : Program) (s : State) (m : MethodId) (args : Array Value) (meth : Method) (c : Code) : Prop :=
  p.tables.exec = Jvm.exec ∧ c.code = y.2.1 ∧ meth.sig.returnType = y.2.2.2 ∧ c.maxLocals = y.2.2.1 ∧ s.vm.findClass y.1.cls = some m.cls ∧ (∀ w ∈ lw_gd, w.before args s = true) ∧ meth.locks = false ∧ GV g s
def rmOf (d : Nat) : Room := { frames := d, cells := 0, slots := 0, locals := 40 * d }
def JQ (g : Gv) (Q : Option Value → Mem → Prop) : Array Value → State → Outcome → State → Prop := fun _ _ oc t => ∃ (r : Option Value) (m' : Mem), oc = .returned r ∧ Q r m' ∧ RH g m' t.heap ∧ GV g t
def Fz (g : Gv) : Addr → Prop := fun q => gB g ≤ q
def J (l : Launch) (g : Gv) (d : Nat) (y : MD) (pc : Nat) (ls : List (Option Value)) (st : List Value) (m : Mem) (Q : Option Value → Mem → Prop) : Prop :=
  ∀ (p : Program) (e : Env) (s : State) (mi : MethodId) (args : Array Value) (below : List Frame) (meth : Method) (c : Code) (H : Heap) (locs : List Loc) (la : Array Slot),
    Cx g y p s mi args meth c → RH g m H → (∀ q ∈ locs, Fz g q.base) → lv_has la y.2.2.1 (lvl 0 ls) →
    W p l e (rmOf d) s mi args below meth c H locs 0 0 (MQ below (JQ g Q) args s 0 0 (Fz g)) (F0 mi pc la st)
def JM (l : Launch) (g : Gv) (d : Nat) (y : MD) (as : List Value) (m : Mem) (Q : Option Value → Mem → Prop) : Prop :=
  Met l y.1 (.code y.1 y.2.1 y.2.2.1 y.2.2.2 :: lw_gd) (rmOf d) (va_Pc as (fun U => RH g m U.heap ∧ GV g U)) (JQ g Q) 0 0 (Fz g)
theorem Wd_get (g : Gv) (m : Mem) {a : Nat} (h : a < 81) : (Wd g m)[a]? = some (ga g a, cellOf g m a) := by
  unfold Wd
  rw [List.getElem?_map, List.getElem?_range h]
  rfl
theorem Wd_D {g : Gv} (h : G0 g) (m : Mem) : va_D (Fz g) (Wd g m) := by
  have key : ∀ (k : Nat) (q : Nat × va_E), (Wd g m)[k]? = some q → k < 81 ∧ q.1 = ga g k := by
    intro k q hk
    by_cases hl : k < 81
    · rw [Wd_get g m hl] at hk
      cases hk
      exact ⟨hl, rfl⟩
    · rw [List.getElem?_eq_none (by unfold Wd; simp; omega)] at hk
      cases hk
  refine ⟨fun i j p q hi hj hpq => ?_, fun k q hk => ?_⟩
  · obtain ⟨a1, a2⟩ := key i p hi
    obtain ⟨b1, b2⟩ := key j q hj
    exact h.2.1 i j a1 b1 (by rw [← a2, ← b2]; exact hpq)
  · obtain ⟨a1, a2⟩ := key k q hk
    show gB g ≤ q.1
    rw [a2]
    exact h.2.2.1 k a1
theorem fv_up {g : Gv} {m : Mem} {a k : Nat} {v : Int32} (hr : rs a k = 0) (j : Nat) : fv g (up2 m a k v) a j = if j = k then .int v else fv g m a j := by
  unfold fv
  by_cases hj : j = k
  · subst hj
    rw [hr, if_pos rfl]
    show Value.int (up2 m a j v a j) = _
    unfold up2
    rw [if_pos ⟨rfl, rfl⟩]
  · rw [if_neg hj]
    have e : up2 m a k v a j = m a j := by unfold up2; rw [if_neg (fun h => hj h.2)]
    rw [e]
theorem fv_other {g : Gv} {m : Mem} {a k b : Nat} {v : Int32} (hb : b ≠ a) : fv g (up2 m a k v) b = fv g m b := by
  funext j
  unfold fv
  have e : up2 m a k v b j = m b j := by unfold up2; rw [if_neg (fun h => hb h.1)]
  rw [e]
theorem cell_other {g : Gv} {m : Mem} {a k b : Nat} {v : Int32} (hb : b ≠ a) : cellOf g (up2 m a k v) b = cellOf g m b := by
  unfold cellOf
  rw [fv_other hb]
  have e : up2 m a k v b = m b := by funext j; unfold up2; rw [if_neg (fun h => hb h.1)]
  rw [e]
theorem Wd_set {g : Gv} {m : Mem} {a k : Nat} {v : Int32} {e : va_E} (ha : a < 81) (he : cellOf g (up2 m a k v) a = e) : (Wd g m).set a (ga g a, e) = Wd g (up2 m a k v) := by
  apply List.ext_getElem?
  intro i
  by_cases hi : i < 81
  · rw [Wd_get g _ hi]
    by_cases h : i = a
    · subst h
      rw [List.getElem?_set_self (by unfold Wd; simp; exact hi), he]
    · rw [List.getElem?_set_ne (Ne.symm h), Wd_get g _ hi, cell_other h]
  · rw [List.getElem?_eq_none (by unfold Wd; simp; omega), List.getElem?_eq_none (by unfold Wd; simp; omega)]
theorem map_up {g : Gv} {m : Mem} {a k n : Nat} {v : Int32} (hr : rs a k = 0) (hk : k < n) : ((List.range n).map (fv g m a)).set k (.int v) = (List.range n).map (fv g (up2 m a k v) a) := by
  apply List.ext_getElem?
  intro i
  by_cases hi : i < n
  · rw [List.getElem?_map, List.getElem?_range hi]
    by_cases h : i = k
    · subst h
      rw [List.getElem?_set_self (by simp; exact hi)]
      show _ = some (fv g (up2 m a i v) a i)
      rw [fv_up hr, if_pos rfl]
    · rw [List.getElem?_set_ne (Ne.symm h), List.getElem?_map, List.getElem?_range hi]
      show some (fv g m a i) = some (fv g (up2 m a k v) a i)
      rw [fv_up hr, if_neg h]
  · rw [List.getElem?_eq_none (by simp; omega), List.getElem?_eq_none (by simp; omega)]
theorem cell_obj {g : Gv} {m : Mem} {a : Nat} (h : tg a = 0) : cellOf g m a = .inr (cx a, (List.range (ln a)).map (fv g m a)) := by unfold cellOf; rw [if_pos h]
theorem cell_arr {g : Gv} {m : Mem} {a : Nat} (h : tg a = 1) : cellOf g m a = .inl (gc g 0, ln a, .inl (m a)) := by unfold cellOf; rw [if_neg (by omega), if_pos h]
theorem cell_ref {g : Gv} {m : Mem} {a : Nat} (h : tg a = 2) : cellOf g m a = .inl (gc g (cx a), ln a, .inr (.inr (.inr (.inr (fun k => some (ga g (rs a k - 1))))))) := by unfold cellOf; rw [if_neg (by omega), if_neg (by omega)]
theorem GV.K {g : Gv} {U : State} (h : GV g U) : va_K (gD g) cls (tys g) U := va_K.moved h.2 h.1.1
theorem GV.alike {g : Gv} {s t : State} (h : GV g s) (ht : s.vm.Alike t.vm) : GV g t := ⟨h.1, h.2.trans ht⟩
theorem RH.S {g : Gv} {m : Mem} {H : Heap} {locs : List Loc} (h : RH g m H) (hl : ∀ q ∈ locs, Fz g q.base) : va_S (Fz g) g.1.heap H locs := ⟨h.2.1, fun q h1 _ => h.2.2 q h1, hl⟩
theorem RH.of {g : Gv} {m : Mem} {H : Heap} {locs : List Loc} (hP : va_P (gD g) cls (Wd g m) H) (hS : va_S (Fz g) g.1.heap H locs) : RH g m H ∧ ∀ q ∈ locs, Fz g q.base := ⟨⟨hP, hS.1, fun q h => hS.2.1 q h (Nat.not_le.mpr h)⟩, hS.2.2⟩
/-- a list of locals: reading and writing -/
theorem lvl_mem : ∀ (ls : List (Option Value)) (i k : Nat) (v : Value), ls[k]? = some (some v) → (i + k, v) ∈ lvl i ls
  | [], i, k, v, h => by simp at h
  | none :: r, i, 0, v, h => by simp at h
  | some w :: r, i, 0, v, h => by
    have e : w = v := by simpa using h
    subst e
    exact List.mem_cons_self
  | none :: r, i, k + 1, v, h => by
    have h1 := lvl_mem r (i + 1) k v (by simpa using h)
    rw [show i + (k + 1) = i + 1 + k by omega]
    exact h1
  | some w :: r, i, k + 1, v, h => by
    have h1 := lvl_mem r (i + 1) k v (by simpa using h)
    rw [show i + (k + 1) = i + 1 + k by omega]
    exact List.mem_cons_of_mem _ h1
theorem mem_lvl : ∀ (ls : List (Option Value)) (i : Nat) (q : Nat × Value), q ∈ lvl i ls → ∃ k, q.1 = i + k ∧ ls[k]? = some (some q.2)
  | [], i, q, h => by simp [lvl] at h
  | none :: r, i, q, h => by
    obtain ⟨k, h1, h2⟩ := mem_lvl r (i + 1) q h
    exact ⟨k + 1, by omega, by simpa using h2⟩
  | some w :: r, i, q, h => by
    rcases List.mem_cons.mp h with h | h
    · subst h
      exact ⟨0, rfl, rfl⟩
    · obtain ⟨k, h1, h2⟩ := mem_lvl r (i + 1) q h
      exact ⟨k + 1, by omega, by simpa using h2⟩
def okc : Option Value → Bool
  | none => true
  | some v => v.category == 1
theorem lv_rd {la : Array Slot} {n : Nat} {ls : List (Option Value)} {k : Nat} {v : Value} (h : lv_has la n (lvl 0 ls)) (hk : ls[k]? = some (some v)) : la[k]? = some (.val v) := by
  have h1 := h.2.2 (0 + k, v) (lvl_mem ls 0 k v hk)
  simpa using h1
theorem lv_wr {la : Array Slot} {n : Nat} {ls : List (Option Value)} {k : Nat} {v : Value} (h : lv_has la n ((k, v) :: (lvl 0 ls).filter (fun q => !(q.1 == k) && !(q.1 + 1 == k && q.2.category == 2)))) (hc : ∀ j o, j + 1 = k → ls[j]? = some o → okc o = true) : lv_has la n (lvl 0 (ls.set k (some v))) := by
  refine ⟨h.1, h.2.1, fun q hq => ?_⟩
  obtain ⟨j, h1, h2⟩ := mem_lvl _ 0 q hq
  have h1 : q.1 = j := by omega
  by_cases hj : j = k
  · subst hj
    have hl : j < ls.length := by
      have := (List.getElem?_eq_some_iff.mp h2).1
      simpa using this
    rw [List.getElem?_set_self hl] at h2
    have e : v = q.2 := by simpa using h2
    have e2 : q = (j, v) := by rw [e, ← h1]
    rw [e2]
    exact h.2.2 (j, v) List.mem_cons_self
  · rw [List.getElem?_set_ne (Ne.symm hj)] at h2
    refine h.2.2 q (List.mem_cons_of_mem _ (List.mem_filter.mpr ⟨?_, ?_⟩))
    · have := lvl_mem ls 0 j q.2 h2
      rw [show q = (0 + j, q.2) by rw [Nat.zero_add, ← h1]]
      exact this
    · have c1 : (q.1 == k) = false := by simpa using (by rw [h1]; exact hj : q.1 ≠ k)
      rw [c1]
      by_cases hk : q.1 + 1 = k
      · have := hc j (some q.2) (by omega) h2
        have c2 : q.2.category = 1 := by simpa [okc] using this
        simp [c2]
      · simp [hk]
