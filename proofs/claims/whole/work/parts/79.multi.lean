/-! multianewarray: an array of 4 rows of 40 ints -/
section MUL
variable {E : CtlPost} {e : Env} {d : Bool} {acts : List Action} {s : State}
/-- one array, of a class that is known -/
theorem mul_new {cA : ClassId} {k : Class} {comp : ClassId} {ty : FieldType} {n : Nat} {v : Value} {Q : Addr → Pre} (hk : s.vm.classes[cA]? = some k) (hkind : k.kind = .array comp ty) (hfit : fits ty v = true) (hdef : v.isDefault = true) (hlimit : ¬ n > e.platform.arrayLengthLimit) (hheap : ¬ n * componentBytes ty > e.platform.maxHeapBytes) (h1 : s.heap.size < e.platform.maxCells) (h2 : s.slotsUsed + n ≤ e.platform.maxSlots)
    (hq : Q s.heap.size d acts (s.pushCell { cls := cA, slots := Array.replicate n v, vm := .none })) : wp (Jvm.newArray cA n v) Q E e d acts s := by
  have hf : ∀ i w, (Array.replicate n v)[i]? = some w → s.fitsSlot cA .none i w = true := by
    intro i w hw
    simp only [Array.getElem?_replicate] at hw
    split at hw
    · cases hw; simp [State.fitsSlot, State.slotType?, hk, hkind, hfit]
    · cases hw
  have hd : allocActs (Array.replicate n v) s.heap.size acts = acts := by
    have hall : ((Array.replicate n v).all (·.isDefault)) = true := by
      rw [Array.all_replicate]; split <;> simp [hdef]
    unfold allocActs; rw [if_pos hall]
  simp only [Jvm.newArray, Jvm.arrayFits, wp_bind', W.ask, W.ite, hlimit, if_false, wp_pure', W.theClass, hk, Option.some.injEq, exists_eq_left', hkind, hheap, W.alloc, W.stop]
  rw [if_neg (by omega)]
  exact ⟨h1, by rw [Array.size_replicate]; exact h2, hf, by rw [hd]; exact hq⟩
end MUL
theorem wpb {α β : Type} (m : Sem α) (k : α → Sem β) (Q : β → Pre) (E : CtlPost) (e : Env) : wp (m >>= k) Q E e = wp m (fun a => wp (k a) Q E e) E e := by
  funext d acts s
  exact propext wp_bind'
theorem wpp {α : Type} (a : α) (Q : α → Pre) (E : CtlPost) (e : Env) : wp (Pure.pure a : Sem α) Q E e = Q a := by
  funext d acts s
  exact propext wp_pure'
theorem mul_four {f : Nat → Sem PUnit} {Q : PUnit → Pre} {E : CtlPost} {e : Env} {d : Bool} {acts : List Action} {s : State} (h : wp (do f 0; f 1; f 2; f 3) Q E e d acts s) : wp (forIn [0:4] PUnit.unit fun i _ => do f i; Pure.pure (ForInStep.yield PUnit.unit)) Q E e d acts s := by
  simp only [Std.Legacy.Range.forIn_eq_forIn_range', Std.Legacy.Range.size]
  show wp (forIn [0, 1, 2, 3] PUnit.unit fun i _ => do f i; Pure.pure (ForInStep.yield PUnit.unit)) Q E e d acts s
  simp only [List.forIn_cons, List.forIn_nil, wpb, wpp] at h ⊢
  exact h
theorem mul_inner {c1 c0 : ClassId} {Q : Addr → Pre} {E : CtlPost} {e : Env} {d : Bool} {acts : List Action} {s : State} {k1 : Class} (hk1 : s.vm.classes[c1]? = some k1) (hkind1 : k1.kind = .array c0 .int) (h : wp (Jvm.newArray c1 40 (.int 0)) Q E e d acts s) : wp (Op.multianewarray.make c1 [40]) Q E e d acts s := by
  have h40 : ¬ (40 : Int32) < 0 := by decide
  rw [Op.multianewarray.make]
  simp only [wp_bind', W.ite, h40, if_false, wp_pure', W.theClass, hk1, hkind1, Option.some.injEq, exists_eq_left']
  exact h
theorem mul_make {c2 c1 : ClassId} {Q : Addr → Pre} {E : CtlPost} {e : Env} {d : Bool} {acts : List Action} {s : State} {k2 : Class} (hk2 : s.vm.classes[c2]? = some k2) (hkind2 : k2.kind = .array c1 (.array .int)) (h : wp (Jvm.newArray c2 4 .null) (fun a => wp (do (do let x ← Op.multianewarray.make c1 [40]; Jvm.writeLoc a 0 (.ref x)); (do let x ← Op.multianewarray.make c1 [40]; Jvm.writeLoc a 1 (.ref x)); (do let x ← Op.multianewarray.make c1 [40]; Jvm.writeLoc a 2 (.ref x)); (do let x ← Op.multianewarray.make c1 [40]; Jvm.writeLoc a 3 (.ref x))) (fun _ => Q a) E e) E e d acts s) : wp (Op.multianewarray.make c2 [4, 40]) Q E e d acts s := by
  have h4 : ¬ (4 : Int32) < 0 := by decide
  have h5 : ((4 : Int32) == 0) = false := by decide
  have h6 : (4 : Int32).toNatClampNeg = 4 := by decide
  rw [Op.multianewarray.make]
  simp only [wp_bind', W.ite, h4, if_false, wp_pure', W.theClass, hk2, hkind2, Option.some.injEq, exists_eq_left', h5, Bool.false_eq_true, h6]
  refine wp_mono _ e ?_ (fun _ _ _ h => h) _ _ _ h
  intro a d acts s hq
  simp only [wpb, wpp]
  refine mul_four (f := fun i => do let x ← Op.multianewarray.make c1 [40]; Jvm.writeLoc a i (.ref x)) ?_
  trace_state
  sorry
