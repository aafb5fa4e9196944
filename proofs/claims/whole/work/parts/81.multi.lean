/-! multianewarray: an array of 4 rows of 40 ints -/
section MUL
variable {E : CtlPost} {e : Env} {d : Bool} {acts : List Action} {s : State}
/-- one array, of a class that is known -/
theorem mul_new {cA : ClassId} {k : Class} {comp : ClassId} {ty : FieldType} {n : Nat} {v : Value} {Q : Addr → Pre} (hk : s.vm.classes[cA]? = some k) (hkind : k.kind = .array comp ty) (hfit : fits ty v = true) (hdef : v.isDefault = true) (hlimit : ¬ n > e.platform.arrayLengthLimit) (hheap : ¬ n * componentBytes ty > e.platform.maxHeapBytes) (h1 : s.heap.size < e.platform.maxCells) (h2 : s.slotsUsed + n ≤ e.platform.maxSlots)
    (hq : Q s.heap.size d acts (s.pushCell { cls := cA, slots := Array.replicate n v, vm := .none })) : wp (Jvm.newArray cA n v) Q E e d acts s := by
  have hf : ∀ i w, (Array.replicate n v)[i]? = some w → s.fitsSlot cA .none i w = true := by
    intro i w hw
    simp only [Array.getElem?_replicate] at hw
    split at hw
    · cases hw; simp [State.fitsSlot, State.slotType?, hk, hkind, hfit]
    · cases hw
  have hd : allocActs (Array.replicate n v) s.heap.size acts = acts := by
    have hall : ((Array.replicate n v).all (·.isDefault)) = true := by
      rw [Array.all_replicate]; split <;> simp [hdef]
    unfold allocActs; rw [if_pos hall]
  simp only [Jvm.newArray, Jvm.arrayFits, wp_bind', W.ask, W.ite, hlimit, if_false, wp_pure', W.theClass, hk, Option.some.injEq, exists_eq_left', hkind, hheap, W.alloc, W.stop]
  rw [if_neg (by omega)]
  exact ⟨h1, by rw [Array.size_replicate]; exact h2, hf, by rw [hd]; exact hq⟩
end MUL
theorem wpb {α β : Type} (m : Sem α) (k : α → Sem β) (Q : β → Pre) (E : CtlPost) (e : Env) : wp (m >>= k) Q E e = wp m (fun a => wp (k a) Q E e) E e := by
  funext d acts s
  exact wp_bind' m k Q E e d acts s
theorem wpp {α : Type} (a : α) (Q : α → Pre) (E : CtlPost) (e : Env) : wp (Pure.pure a : Sem α) Q E e = Q a := by
  funext d acts s
  exact wp_pure' Q E e d acts s a
theorem mul_four {M : Sem Addr} {w : Nat → Addr → Sem PUnit} {Q : PUnit → Pre} {E : CtlPost} {e : Env} {d : Bool} {acts : List Action} {s : State} (h : wp M (fun x => wp (w 0 x) (fun _ => wp M (fun x => wp (w 1 x) (fun _ => wp M (fun x => wp (w 2 x) (fun _ => wp M (fun x => wp (w 3 x) Q E e) E e) E e) E e) E e) E e) E e) E e d acts s) : wp (forIn [0:4] PUnit.unit fun i _ => do let x ← M; w i x; Pure.pure (ForInStep.yield PUnit.unit)) Q E e d acts s := by
  simp only [Std.Legacy.Range.forIn_eq_forIn_range', Std.Legacy.Range.size]
  show wp (forIn [0, 1, 2, 3] PUnit.unit fun i _ => do let x ← M; w i x; Pure.pure (ForInStep.yield PUnit.unit)) Q E e d acts s
  simp only [List.forIn_cons, List.forIn_nil, wpb, wpp] at h ⊢
  exact h
theorem mul_inner {c1 c0 : ClassId} {Q : Addr → Pre} {E : CtlPost} {e : Env} {d : Bool} {acts : List Action} {s : State} {k1 : Class} (hk1 : s.vm.classes[c1]? = some k1) (hkind1 : k1.kind = .array c0 .int) (h : wp (Jvm.newArray c1 40 (.int 0)) Q E e d acts s) : wp (Op.multianewarray.make c1 [40]) Q E e d acts s := by
  have h40 : ¬ (40 : Int32) < 0 := by decide
  rw [Op.multianewarray.make]
  simp only [wp_bind', W.ite, h40, if_false, wp_pure', W.theClass, hk1, hkind1, Option.some.injEq, exists_eq_left']
  exact h
/-- one row: made, laid into the array -/
theorem mul_row {U : State} {f : JFrame} {c1 c0 c2 : ClassId} {k1 k2 : Class} {a i : Nat} {cell : Cell} {Q : PUnit → Pre} {E : CtlPost} {e : Env} {d : Bool} {acts : List Action} (hk1 : U.vm.classes[c1]? = some k1) (hkind1 : k1.kind = .array c0 .int) (hk2 : U.vm.classes[c2]? = some k2) (hkind2 : k2.kind = .array c1 (.array .int)) (ha : a < U.heap.size) (hcell : U.heap[a]? = some cell) (hvm : cell.vm = .none) (hcl : cell.cls = c2) (hi : i < cell.slots.size) (hlimit : ¬ 40 > e.platform.arrayLengthLimit) (hheap : ¬ 40 * 4 > e.platform.maxHeapBytes) (h1 : U.heap.size < e.platform.maxCells) (h2 : U.slotsUsed + 40 ≤ e.platform.maxSlots)
    (hq : ∀ acts', Q PUnit.unit true acts' (((U.pushCell { cls := c1, slots := Array.replicate 40 (.int 0), vm := .none }).setCell a (cell.setSlot i (.ref U.heap.size))).setTop f)) : wp (Op.multianewarray.make c1 [40]) (fun x => wp (Jvm.writeLoc a i (.ref x)) Q E e) E e d acts (U.setTop f) := by
  refine mul_inner (k1 := k1) (c0 := c0) hk1 hkind1 ?_
  refine mul_new (k := k1) (comp := c0) (ty := .int) hk1 hkind1 rfl rfl hlimit hheap h1 h2 ?_
  rw [W.writeLoc]
  refine ⟨cell, ?_, ?_, hi, ?_, hq _⟩
  · show (U.heap.push _)[a]? = some cell
    rw [Array.getElem?_push, if_neg (Nat.ne_of_lt ha)]
    exact hcell
  · rw [hvm]
    intro h
    cases h
  · have hk2' : U.vm.classes[cell.cls]? = some k2 := by rw [hcl]; exact hk2
    simp [State.fitsSlot, State.slotType?, hvm, hk2', hkind2, fits]
theorem mul_make {c2 c1 : ClassId} {Q : Addr → Pre} {E : CtlPost} {e : Env} {d : Bool} {acts : List Action} {s : State} {k2 : Class} (hk2 : s.vm.classes[c2]? = some k2) (hkind2 : k2.kind = .array c1 (.array .int)) (h : wp (Jvm.newArray c2 4 .null) (fun a => wp (Op.multianewarray.make c1 [40]) (fun x => wp (Jvm.writeLoc a 0 (.ref x)) (fun _ => wp (Op.multianewarray.make c1 [40]) (fun x => wp (Jvm.writeLoc a 1 (.ref x)) (fun _ => wp (Op.multianewarray.make c1 [40]) (fun x => wp (Jvm.writeLoc a 2 (.ref x)) (fun _ => wp (Op.multianewarray.make c1 [40]) (fun x => wp (Jvm.writeLoc a 3 (.ref x)) (fun _ => Q a) E e) E e) E e) E e) E e) E e) E e) E e) E e d acts s) : wp (Op.multianewarray.make c2 [4, 40]) Q E e d acts s := by
  have h4 : ¬ (4 : Int32) < 0 := by decide
  have h5 : ((4 : Int32) == 0) = false := by decide
  have h6 : (4 : Int32).toNatClampNeg = 4 := by decide
  rw [Op.multianewarray.make]
  simp only [wp_bind', W.ite, h4, if_false, wp_pure', W.theClass, hk2, hkind2, Option.some.injEq, exists_eq_left', h5, Bool.false_eq_true, h6]
  refine wp_mono _ e ?_ (fun _ _ _ h => h) _ _ _ h
  intro a d acts s hq
  rw [wpb]
  refine mul_four (M := Op.multianewarray.make c1 [40]) (w := fun i x => Jvm.writeLoc a i (.ref x)) ?_
  exact hq
section MULW
variable {p : Program} {l : Launch} {e : Env} {R : Room} {s : State} {m : MethodId} {args : Array Value} {below : List Frame} {meth : Method} {c : Code} {locs0 : List Loc} {cells slots : Nat}
/-- the array with its first j rows -/
def MF (p : Program) (l : Launch) (e : Env) (R : Room) (s : State) (m : MethodId) (args : Array Value) (below : List Frame) (meth : Method) (c : Code) (locs0 : List Loc) (cells slots : Nat) (H : Heap) (vm : Vm) (c1 c2 : ClassId) (j : Nat) (U : State) (locs : List Loc) : Prop :=
  Stand p l e R s m args below meth c U locs (cells + 1 + j) (slots + 4 + 40 * j) ∧ U.heap.size = H.size + 1 + j ∧ U.vm = vm ∧ (∀ q : Nat, q < H.size → U.heap[q]? = H[q]?) ∧ U.heap[H.size]? = some (arrV c2 4 (fun k => if k < j then .ref (H.size + 1 + k) else .null)) ∧ (∀ k : Nat, k < j → U.heap[H.size + 1 + k]? = some (arrV c1 40 (fun _ => .int 0))) ∧ ∀ q ∈ locs, q ∈ locs0 ∨ H.size ≤ q.base
theorem mul_step {H : Heap} {vm : Vm} {c1 c0 c2 : ClassId} {k1 k2 : Class} {j : Nat} {U : State} {locs : List Loc} (hk1 : vm.classes[c1]? = some k1) (hkind1 : k1.kind = .array c0 .int) (hk2 : vm.classes[c2]? = some k2) (hkind2 : k2.kind = .array c1 (.array .int)) (hj : j < 4) (hc : cells + 5 ≤ R.cells) (hs : slots + 164 ≤ R.slots) (h : MF p l e R s m args below meth c locs0 cells slots H vm c1 c2 j U locs) :
    ∃ (U' : State) (locs' : List Loc), MF p l e R s m args below meth c locs0 cells slots H vm c1 c2 (j + 1) U' locs' ∧ ∀ (f : JFrame) (Q : PUnit → Pre) (E : CtlPost) (d : Bool) (acts : List Action), (∀ acts', Q PUnit.unit true acts' (U'.setTop f)) → wp (Op.multianewarray.make c1 [40]) (fun x => wp (Jvm.writeLoc H.size j (.ref x)) Q E e) E e d acts (U.setTop f) := by
  obtain ⟨X, z, hv, h1, h2, h3, h4⟩ := h
  have hlt : H.size < U.heap.size := by omega
  have hlimit : ¬ 40 > e.platform.arrayLengthLimit := by rw [Launch.admits_arrayLengthLimit X.admits]; decide
  have hheap : ¬ 40 * 4 > e.platform.maxHeapBytes := by rw [Launch.admits_maxHeapBytes X.admits]; decide
  obtain ⟨r1, r2⟩ := X.roomAbove (a := 1) (b := 40) (by omega) (by omega)
  have X2 := X.pushed { cls := c1, slots := Array.replicate 40 (.int 0), vm := .none }
  have hB : (U.pushCell { cls := c1, slots := Array.replicate 40 (.int 0), vm := .none }).heap[H.size]? = some (arrV c2 4 (fun k => if k < j then .ref (H.size + 1 + k) else .null)) := by
    show (U.heap.push _)[H.size]? = _
    rw [Array.getElem?_push, if_neg (Nat.ne_of_lt hlt)]
    exact h2
  have X3 := X2.stored hB j (.ref U.heap.size)
  have hsz : (U.pushCell { cls := c1, slots := Array.replicate 40 (.int 0), vm := .none }).heap.size = H.size + 1 + (j + 1) := by
    show (U.heap.push _).size = _
    rw [Array.size_push, z]
    omega
  refine ⟨(U.pushCell { cls := c1, slots := Array.replicate 40 (.int 0), vm := .none }).setCell H.size ((arrV c2 4 (fun k => if k < j then .ref (H.size + 1 + k) else .null)).setSlot j (.ref U.heap.size)), locs ++ [⟨H.size, j⟩], ⟨?_, ?_, hv, fun q hq => ?_, ?_, fun k hk => ?_, fun q hq => ?_⟩, fun f Q E d acts hq => mul_row (by rw [hv]; exact hk1) hkind1 (by rw [hv]; exact hk2) hkind2 hlt h2 rfl rfl (by rw [arrV_size]; exact hj) hlimit hheap (by omega) r2 hq⟩
  · have e1 : slots + 4 + 40 * (j + 1) = slots + 4 + 40 * j + 40 := by omega
    have e2 : cells + 1 + (j + 1) = cells + 1 + j + 1 := rfl
    rw [e1, e2]
    simpa using X3
  · rw [size_setCell, hsz]
  · rw [heapAt_setCell_ne _ (show H.size ≠ q by omega)]
    show (U.heap.push _)[q]? = _
    rw [Array.getElem?_push, if_neg (show ¬ q = U.heap.size by omega)]
    exact h1 q hq
  · rw [heapAt_setCell_self _ (show H.size < (U.pushCell { cls := c1, slots := Array.replicate 40 (.int 0), vm := .none }).heap.size by rw [hsz]; omega), arrV_store]
    congr 1
    refine arrV_ext (fun k hk => ?_)
    unfold updV
    by_cases he : k = j
    · subst he
      rw [if_pos rfl, if_pos (by omega), z]
    · rw [if_neg he]
      show (if k < j then Value.ref (H.size + 1 + k) else Value.null) = _
      by_cases hl : k < j
      · rw [if_pos hl, if_pos (by omega)]
      · rw [if_neg hl, if_neg (by omega)]
  · rw [heapAt_setCell_ne _ (show H.size ≠ H.size + 1 + k by omega)]
    show (U.heap.push _)[H.size + 1 + k]? = _
    by_cases he : k = j
    · subst he
      rw [← z, Array.getElem?_push_size, ← arrV_new]
    · rw [Array.getElem?_push, if_neg (show ¬ H.size + 1 + k = U.heap.size by omega)]
      exact h3 k (by omega)
  · rcases List.mem_append.mp hq with hq | hq
    · exact h4 q hq
    · rw [List.mem_singleton.mp hq]
      exact Or.inr (Nat.le_refl _)
end MULW
section MULX
variable {p : Program} {l : Launch} {e : Env} {R : Room} {s : State} {m : MethodId} {args : Array Value} {below : List Frame} {meth : Method} {c : Code} {H : Heap} {locs : List Loc} {cells slots : Nat} {Q : State → Prop}
theorem W_multi {cc : ByteArray} (hexec : p.tables.exec = Jvm.exec) (hb : c.code = cc) {own : String} {index pc : Nat} {ls : Array Slot} {st : List Value} {c0 c1 c2 : ClassId} {k1 k2 : Class} (hown : s.vm.findClass own = some m.cls) (hclink : (Cond.classLink own index "[[I").before args s = true) (hc2 : s.vm.findClass "[[I" = some c2) (hk2 : s.vm.classes[c2]? = some k2) (hkind2 : k2.kind = .array c1 (.array .int)) (hk1 : s.vm.classes[c1]? = some k1) (hkind1 : k1.kind = .array c0 .int) (hdg : decode cc pc = .ok (.multianewarray index 2, 4)) (hcells : cells + 5 ≤ R.cells) (hslots : slots + 164 ≤ R.slots)
    (kk : ∀ (H' : Heap) (locs' : List Loc), H'.size = H.size + 5 → (∀ q : Nat, q < H.size → H'[q]? = H[q]?) → H'[H.size]? = some (arrV c2 4 (fun k => if k < 4 then .ref (H.size + 1 + k) else .null)) → (∀ k : Nat, k < 4 → H'[H.size + 1 + k]? = some (arrV c1 40 (fun _ => .int 0))) → (∀ q ∈ locs', q ∈ locs ∨ H.size ≤ q.base) → W p l e R s m args below meth c H' locs' (cells + 5) (slots + 164) Q (F0 m (pc + 4) ls (.ref H.size :: st))) : W p l e R s m args below meth c H locs cells slots Q (F0 m pc ls (.int 40 :: .int 4 :: st)) := by
  intro T hT X
  subst hT; subst hb
  have hpl : e.platform.magicAccessors = ({} : Platform).magicAccessors := by rw [X.admits.platform]
  obtain ⟨cx0, hfcc, hcl⟩ := Cond.classLink_spec hown hclink e.platform hpl
  cases hc2.symm.trans hfcc
  obtain ⟨hg₁, hwarm₁, hready₁⟩ := State.classEntry (e := e) X.warmed hcl
  generalize T.vm.noted m.cls index (.cls c2) = vm₁ at hg₁ hwarm₁ hready₁
  have hal : s.vm.Alike vm₁ := hwarm₁.alike
  obtain ⟨k1', hk1', he1⟩ := hal.2.2 _ _ hk1
  obtain ⟨k2', hk2', he2⟩ := hal.2.2 _ _ hk2
  have hkind1' : k1'.kind = .array c0 .int := by rw [he1]; exact hkind1
  have hkind2' : k2'.kind = .array c1 (.array .int) := by rw [he2]; exact hkind2
  have hlimit : ¬ 4 > e.platform.arrayLengthLimit := by rw [Launch.admits_arrayLengthLimit X.admits]; decide
  have hheap : ¬ 4 * 4 > e.platform.maxHeapBytes := by rw [Launch.admits_maxHeapBytes X.admits]; decide
  obtain ⟨r1, r2⟩ := X.roomAbove (a := 1) (b := 4) (by omega) (by omega)
  have X₁ := X.noted hwarm₁
  have X₂ := X₁.pushed { cls := c2, slots := Array.replicate 4 .null, vm := .none }
  have M0 : MF p l e R s m args below meth c locs cells slots T.heap vm₁ c1 c2 0 ((T.setVm vm₁).pushCell { cls := c2, slots := Array.replicate 4 .null, vm := .none }) locs := by
    refine ⟨by simpa using X₂, ?_, rfl, fun q hq => ?_, ?_, fun k hk => absurd hk (by omega), fun q hq => Or.inl hq⟩
    · show (T.heap.push _).size = _
      rw [Array.size_push]
    · show (T.heap.push _)[q]? = _
      rw [Array.getElem?_push, if_neg (Nat.ne_of_lt hq)]
    · show (T.heap.push _)[T.heap.size]? = _
      rw [Array.getElem?_push_size, arrV_new]
      congr 1
  obtain ⟨U1, l1, M1, w1⟩ := mul_step hk1' hkind1' hk2' hkind2' (by omega) hcells hslots M0
  obtain ⟨U2, l2, M2, w2⟩ := mul_step hk1' hkind1' hk2' hkind2' (by omega) hcells hslots M1
  obtain ⟨U3, l3, M3, w3⟩ := mul_step hk1' hkind1' hk2' hkind2' (by omega) hcells hslots M2
  obtain ⟨U4, l4, M4, w4⟩ := mul_step hk1' hkind1' hk2' hkind2' (by omega) hcells hslots M3
  obtain ⟨Y, y2, y3, y4, y5, y6, y7⟩ := M4
  obtain ⟨t, a1, b1⟩ := kk U4.heap l4 (by rw [y2]) y4 y5 y6 y7 U4 rfl Y
  refine ⟨t, ?_, b1⟩
  jvm_step X.here [hexec, hdg]
  simp only [Op.multianewarray.sem, wp_bind']
  rw [W.resolveClassAt_transfer (s := T.setTop (F0 m pc ls (.int 40 :: .int 4 :: st))) (State.method?_setTop _ X.here.top) hg₁ hready₁]
  rw [State.setVm_setTop]
  have hs1 : (T.setVm vm₁).topJava?.isSome := X.here.top
  refine (W.resolveClassAt_ready (s := (T.setVm vm₁).setTop (F0 m pc ls (.int 40 :: .int 4 :: st))) (State.method?_setTop (F0 m pc ls (.int 40 :: .int 4 :: st)) hs1) hready₁).mpr ?_
  rw [wpb]
  refine (Op.popN_top (s := T.setVm vm₁) (f := F0 m pc ls (.int 40 :: .int 4 :: st)) (args := [.int 4, .int 40]) (rest := st) hs1 rfl).mpr ?_
  simp only [wpb, wpp, List.mapM_cons, List.mapM_nil]
  refine mul_make (k2 := k2') (c1 := c1) hk2' hkind2' ?_
  refine mul_new (k := k2') (comp := c1) (ty := .array .int) hk2' hkind2' rfl rfl hlimit hheap r1 r2 ?_
  refine w1 (F0 m pc ls st) _ _ _ _ (fun acts1 => ?_)
  refine w2 (F0 m pc ls st) _ _ _ _ (fun acts2 => ?_)
  refine w3 (F0 m pc ls st) _ _ _ _ (fun acts3 => ?_)
  refine w4 (F0 m pc ls st) _ _ _ _ (fun acts4 => ?_)
  rw [W.mark, W.pushRef]
  refine ⟨F0 m pc ls st, State.topJava?_setTop' _ Y.here.top, fun acts5 => ?_⟩
  rw [afterInstr_ok, State.setTop_setTop]
  exact a1
end MULX
section XMU
variable {l : Launch} {g : Gv} {y : MD} {pc : Nat} {ls : List (Option Value)} {st : List Value} {R0 : Room} {c0 s0 : Nat} {P : Pr} {X : State → Array Value → List Frame → Method → (State → Prop) → Prop}
theorem x_multi (pc' : Nat) {i : Nat} (hdg : decode y.2.1 pc = .ok (.multianewarray i 2, 4)) (hp : pc + 4 = pc') (hw : Cond.classLink y.1.cls i "[[I" ∈ lw_gd) (ho : Cond.arrayOver (.array .int) ∈ lw_tbl) (hc : Nat.ble (c0 + 5) R0.cells = true) (hs : Nat.ble (s0 + 164) R0.slots = true) (kk : JX l g y (KX g R0 (c0 + 5) (s0 + 164) 65 (setR P 60 5) X) pc' ls (rf g 60 :: st)) : JX l g y (KX g R0 c0 s0 60 P X) pc ls (.int 40 :: .int 4 :: st) := by
  intro p e R s mi args below meth c H locs cells slots Q la C K0 L
  obtain ⟨rfl, ⟨rfl, rfl, hz⟩, ⟨r1, r2, r3, ⟨r4, r5⟩, r6⟩, S, Wm, x⟩ := K0
  subst hp
  have hts := C.2.2.2.2.2.1
  have G := C.2.2.2.2.2.2.2.1
  have hal := C.2.2.2.2.2.2.2.2
  have hK := (C.2.2.2.2.2.2.2).K
  obtain ⟨comp, cA, kA, f1, -, f3, f4, f5⟩ := arrayOverA_spec (G.2.2.2.1 _ ho)
  obtain ⟨k2, hk2, he2⟩ := hal.2.2 _ _ f3
  have e0 : comp = gc g 0 := Option.some.inj (f1.symm.trans (G.1.2 0 _ rfl).2)
  have e2 : cA = gc g 2 := Option.some.inj (f5.symm.trans (G.1.2 2 _ rfl).2)
  subst e0
  subst e2
  obtain ⟨-, k1, hk1, c0', hk1k⟩ := (hK.2 0 _ rfl).1 0 (fun _ => .null)
  refine W_multi (c2 := gc g 2) (c1 := gc g 0) (c0 := c0') (k1 := k1) (k2 := k2) C.1 C.2.1 C.2.2.2.2.1 (hts _ hw) (by rw [hal.findClass]; exact f5) hk2 (by rw [he2]; exact f4) hk1 hk1k hdg (Nat.le_of_ble_eq_true hc) (Nat.le_of_ble_eq_true hs) (fun H' locs' z o b1 b2 b3 => ?_)
  have hin : ∀ b j, 60 ≤ b → b < 65 → setR P 60 5 b j = true := fun b j h1 h2 => by
    unfold setR
    rw [Nat.ble_eq_true_of_le h1, show Nat.blt b (60 + 5) = true from Nat.ble_eq_true_of_le h2]
    simp
  have hP' : va_P (gD g) cls (Wc g 65 (setR P 60 5)) H' := by
    intro k q hk
    have hk65 : k < 65 := by
      have := (List.getElem?_eq_some_iff.mp hk).1
      rw [Wc_len] at this
      exact this
    rw [Wc_get g _ hk65] at hk
    cases hk
    by_cases h60 : k < 60
    · have hc : cellP g (setR P 60 5) k = cellP g P k := cellP_eq (fun j hj => Or.inl (by
        unfold setR
        have : Nat.ble 60 k = false := by
          cases hh : Nat.ble 60 k with
          | false => rfl
          | true => have := Nat.le_of_ble_eq_true hh; omega
        rw [this, Bool.false_and, Bool.or_false]))
      rw [hc]
      exact (r1 k _ (Wc_get g P h60)).kept (o (ga g k) (by rw [r2, r6 k (by omega)]; omega))
    · by_cases h6 : k = 60
      · subst h6
        rw [cellP_ref rfl]
        show H'[ga g 60]? = some (vp_cell _ _)
        rw [r6 60 (by decide), ← r2, b1, vp_cell_q]
        refine congrArg some (arrV_ext (fun j hj => ?_))
        have hj : j < 4 := hj
        rw [if_pos hj, onP, hin 60 j (by decide) (by decide), Bool.true_or, if_pos rfl]
        have : rs 60 j - 1 = 61 + j := by
          rcases (show j = 0 ∨ j = 1 ∨ j = 2 ∨ j = 3 by omega) with rfl | rfl | rfl | rfl <;> rfl
        show Value.ref _ = Value.ref (ga g (rs 60 j - 1))
        rw [this, r6 (61 + j) (by omega), show H.size + 1 + j = gB g + (61 + j) by omega]
      · obtain ⟨j, hj, rfl⟩ : ∃ j, j < 4 ∧ k = 61 + j := ⟨k - 61, by omega, by omega⟩
        have hb := b2 j hj
        have ht : tg (61 + j) = 1 ∧ ln (61 + j) = 40 := by
          rcases (show j = 0 ∨ j = 1 ∨ j = 2 ∨ j = 3 by omega) with rfl | rfl | rfl | rfl <;> exact ⟨rfl, rfl⟩
        rw [cellP_arr ht.1]
        show H'[ga g (61 + j)]? = some (vp_cell _ _)
        rw [r6 (61 + j) (by omega), show gB g + (61 + j) = H.size + 1 + j by omega, hb, vp_cell_i, ht.2]
        refine congrArg some (arrV_ext (fun i hi => ?_))
        have : m0 (61 + j) i = 0 := by
          rcases (show j = 0 ∨ j = 1 ∨ j = 2 ∨ j = 3 by omega) with rfl | rfl | rfl | rfl <;> rfl
        rw [this, ite_self]
  have h60 : rf g 60 = .ref H.size := by unfold rf; rw [r2, r6 60 (by decide)]
  rw [← h60]
  exact kk p e R s mi args below meth c H' locs' _ _ Q la C ⟨rfl, ⟨rfl, rfl, by omega⟩, ⟨hP', by omega, fun q hq => (o q (by omega)).trans (r3 q hq), ⟨by decide, fun b j hb => by
    unfold setR
    rw [r5 b j (by omega)]
    cases hh : Nat.blt b (60 + 5) with
    | false => simp
    | true => have := Nat.le_of_ble_eq_true hh; omega⟩, r6⟩, fun q hq => (b3 q hq).elim (S q) (fun h => by show gB g ≤ q.base; omega), Wm, x⟩ L
end XMU
