/-! super.m(..) where m is declared above the superclass -/
section VSX
variable {p : Program} {l : Launch} {e : Env} {R : Room} {s : State} {m : MethodId} {args : Array Value} {below : List Frame} {meth : Method} {c : Code}
theorem sub_up {vm : Vm} {a b : ClassId} {k : Class} (hk : vm.classes[a]? = some k) (hs : k.super = some b) : vm.isSubclass a b = true := by
  have h0 : 0 < vm.classes.size := Nat.lt_of_le_of_lt (Nat.zero_le _) (Array.getElem?_eq_some_iff.mp hk).1
  obtain ⟨n, hn⟩ : ∃ n, vm.classes.size = n + 1 := ⟨vm.classes.size - 1, by omega⟩
  simp [Vm.isSubclass, Vm.isSubclassAux, hn, hk, hs]
theorem callSX {T : State} {locs : List Loc} {cells slots : Nat} (X : Stand p l e R s m args below meth c T locs cells slots) (hexec : p.tables.exec = Jvm.exec) {own : String} {index : Nat} {x y : MethodName} {bytes : ByteArray} {maxL : Nat} {ret : Option FieldType}
    (hown : s.vm.findClass own = some m.cls) (hlink : (Cond.methodLink own index x).before args s = true) (hsame : (Cond.sameMethod x.cls y.cls x.name x.desc).before args s = true) (hsup : (Cond.superclass own x.cls).before args s = true) (hsup2 : (Cond.superclass x.cls y.cls).before args s = true)
    (hinst : (Cond.instanceMethod y).before args s = true) (hcode : (Cond.code y bytes maxL ret).before args s = true) (hno : y.name ≠ "<init>") (hxn : x.name = y.name) (hxd : x.desc = y.desc)
    {W : Nat} {Pre : Pt → Array Value → Prop} {Post : Pt → Array Value → Option Value → Pt → Prop} (hK : Back l R p e below s args y 3 W Pre Post)
    {b : Addr} {cellB : Cell} {kB : Class} (hcell : T.heap[b]? = some cellB) (hobj : cellB.vm.isStatics = false) (hkB : s.vm.classes[cellB.cls]? = some kB)
    {g : JFrame} (hg : g.method = m) (hsize : g.locals.size = c.maxLocals) {argsL rest : List Value} (hlen : ∀ sig, parseMethodDescriptor y.desc = some sig → argsL.length = sig.parameters.length)
    (hstack : g.stack = argsL.reverse ++ .ref b :: rest) (hW : 2 * g.monitorRoom + (rest.map fun v => v.category).sum ≤ W) (hdg : decode c.code g.pc = .ok (.invokespecial index, 3))
    (hpre : ∀ vm₁, s.WarmedH vm₁ → Pre ⟨T.setVm vm₁, locs, cells, slots⟩ (Value.ref b :: argsL).toArray) :
    ∃ (v : Option Value) (vm₁ : Vm) (B : Pt), s.WarmedH vm₁ ∧ Stand p l e R s m args below meth c B.U B.locs B.cells B.slots ∧ Post ⟨T.setVm vm₁, locs, cells, slots⟩ (Value.ref b :: argsL).toArray v B ∧
      ∀ target, Steps p.tables e below (B.U.setTop { g with pc := g.pc + 3, stack := v.toList ++ rest }) target → Steps p.tables e below (T.setTop g) target := by
  obtain ⟨mk, methM, hnamed, hmethM, hstM, habM⟩ := Cond.instanceMethod_spec hinst
  obtain ⟨methM', cM, hmethM', -, -, -, -, -, -, hsigM⟩ := Cond.code_spec hnamed hcode
  cases hmethM.symm.trans hmethM'
  obtain ⟨ps, dk, kp, hps, hdk, hkp, hsuper, -, -, hnid⟩ := Cond.superclass_spec hown hsup
  obtain ⟨pq, dq, kq, hpq, hdq, hkq, hsuperq, -, -, hnidq⟩ := Cond.superclass_spec hps hsup2
  have hn : s.methodNamed? ⟨y.cls, x.name, x.desc⟩ = some mk := by rw [hxn, hxd]; exact hnamed
  have hpm : pq = mk.cls := Option.some.inj (hpq.symm.trans (findClass_of_methodNamed hnamed))
  have hsub : s.vm.isSubclass ps mk.cls = true := by rw [← hpm]; exact sub_up hdq hsuperq
  obtain ⟨vm₁, X₁, hstep₁⟩ := X.invokespecialUp hexec hown hlink hsame hn hmethM hstM habM (by rw [hxn]; exact hno) hdk hnid hps hsuper hsub (a := b) (cell := cellB) hcell
    (fun z h => by rw [h] at hobj; cases hobj) hkB (g := g) hg (argsL := argsL) (rest := rest) (hlen _ hsigM) hstack hdg
  obtain ⟨v, B, X', hpost, hsteps⟩ := hK m meth c ⟨T.setVm vm₁, locs, cells, slots⟩ { g with stack := rest } (.invokespecial index) mk (Value.ref b :: argsL).toArray X₁ hg hsize hdg hW (X₁.named hnamed) (hpre vm₁ X₁.warmed)
  exact ⟨v, vm₁, B, X₁.warmed, X', hpost, fun target h => hstep₁ _ (by rw [doInvoke_state]; exact hsteps.trans h)⟩
variable {H : Heap} {locs : List Loc} {cells slots : Nat}
theorem runSX {x y : MethodName} {bytes cc : ByteArray} {maxL nL mc ms n index : Nat} {ret : Option FieldType} {ws : List Cond} {rm : Room} {Pc : Array Value → State → Prop} {Qc : Array Value → State → Outcome → State → Prop} {free : Addr → Prop} {Ts : List Cond} {own C : String} {cC : ClassId} {b : Addr} {As rest : List Value} {g : JFrame}
    (hat : ClassAt s C cC) (S : CallFix p m c cc nL s args Ts own) (hM : Met l y ws rm Pc Qc mc ms free)
    (c1 : rm.cells = mc ∧ rm.slots = ms ∧ rm.frames + 1 ≤ R.frames ∧ 8 + (maxL + 11) + rm.locals ≤ R.locals ∧ (∀ w ∈ ws, ∀ (a' : Array Value) (U : State), s.WarmedH U.vm → w.before a' U = true) ∧ Cond.code y bytes maxL ret ∈ ws)
    (hlink : (Cond.methodLink own index x).before args s = true) (hsame : (Cond.sameMethod x.cls y.cls x.name x.desc).before args s = true) (hsup : (Cond.superclass own x.cls).before args s = true) (hsup2 : (Cond.superclass x.cls y.cls).before args s = true)
    (hinst : (Cond.instanceMethod y).before args s = true) (hini : (Cond.initialized y.cls).before args s = true) (hcode : (Cond.code y bytes maxL ret).before args s = true) (hno : y.name ≠ "<init>") (hxn : x.name = y.name) (hxd : x.desc = y.desc) (hlen : ∀ sig, parseMethodDescriptor y.desc = some sig → n = sig.parameters.length) (hp : PreV s H C b Pc As)
    (hg : g.method = m) (hn : As.length = n) (hsize : g.locals.size = nL) (hstack : g.stack = As.reverse ++ .ref b :: rest) (hW : 2 * g.monitorRoom + (rest.map fun v => v.category).sum ≤ 8) (hdg : decode cc g.pc = .ok (.invokespecial index, 3)) (hf : cells + mc ≤ R.cells ∧ slots + ms ≤ R.slots) :
    va_Run p l e R s m args below meth c H locs cells slots mc ms g rest (Qc (Value.ref b :: As).toArray) (free) := by
  obtain ⟨hrc, hrs, hfr, hlo, hws, hcw⟩ := c1
  have hK : Back l R p e below s args y 3 8 (PreOf R mc ms Pc) (PostOf Qc mc ms free) := back_of (bytes := bytes) (maxL := maxL) (ret := ret) hM hp.1 hrc hrs hfr hlo hws hcw (fun a' U hW => word_at hW (Or.inl (by first | rfl | simp [Cond.onTables, Cond.keeps, Cond.steady])) hini)
  obtain ⟨hx, hb, hml, ho, -⟩ := S
  obtain ⟨-, ⟨cellB, hcB, hoB, hclB⟩, hPc⟩ := hp
  obtain ⟨hfc, kB, hkB, -⟩ := hat
  cases hfc.symm.trans hclB
  intro T hT X
  obtain ⟨v, vm₁, ⟨U', l2, c2, s2⟩, hW₁, X', ⟨g', mk, t, L, e1, e2, hq, h1, hL, h2, h3⟩, st⟩ := callSX X hx (bytes := bytes) (maxL := maxL) (ret := ret) ho hlink hsame hsup hsup2 hinst hcode hno hxn hxd hK (by rw [hT]; exact hcB) hoB hkB hg (hsize.trans hml.symm) (argsL := As) (rest := rest) (fun sig h => hn.trans (hlen sig h)) hstack hW (by rw [hb]; exact hdg)
    (fun vm₁ hW₁ => ⟨hf.1, hf.2, hPc (T.setVm vm₁) hT hW₁⟩)
  dsimp only [Pt.U, Pt.locs, Pt.cells, Pt.slots] at X' e1 e2 h1 h2 h3 st
  subst h1; subst h2; subst h3
  exact ⟨v, (T.setVm vm₁).calling g' mk (Value.ref b :: As).toArray, t, U', L, hT, X', hL, e1, e2, hq, st⟩
end VSX
def CSx (own : String) (i : Nat) (x : MethodName) (y : MD) (n : Nat) : Prop := MI y n ∧ Cond.methodLink own i x ∈ lw_gd ∧ Cond.sameMethod x.cls y.1.cls x.name x.desc ∈ lw_gd ∧ Cond.superclass own x.cls ∈ lw_gd ∧ Cond.superclass x.cls y.1.cls ∈ lw_gd ∧ Cond.instanceMethod y.1 ∈ lw_gd ∧ y.1.name ≠ "<init>" ∧ x.name = y.1.name ∧ x.desc = y.1.desc
section JSX
variable {l : Launch} {g : Gv} {d d' : Nat} {y y' : MD} {pc : Nat} {ls : List (Option Value)} {rest : List Value} {m : Mem} {Q : Option Value → Mem → Prop} {i a ci : Nat} {v : Value} {m1 : Mem}
theorem j_sx2f {q : vw_C} (pc' : Nat) {a0 a1 : Value} {x : MethodName} (hdg : decode y.2.1 pc = .ok (.invokespecial i, 3)) (hp : pc + 3 = pc') (hd : Nat.blt d' d = true) (hc : CSx y.1.cls i x y' 2) (ho : okC a ci = true) (hq : cls[ci]? = some q) (hw : Nat.ble (rest.map fun v => v.category).sum 8 = true) (hM : JM l g d' y' [rf g a, a0, a1] m (RF (some v) m1)) (kk : J l g d y pc' ls (v :: rest) m1 Q) : J l g d y pc ls (a1 :: a0 :: rf g a :: rest) m Q := by
  subst hp
  refine j_run (as := [rf g a, a0, a1]) (rest := rest) (Q' := RF (some v) m1) (fun p e s mi args below meth c H locs la C R S L => ?_) (fun r m' h => by obtain ⟨rfl, rfl⟩ := h; exact kk)
  have hts := C.2.2.2.2.2.1
  obtain ⟨hm, c1, c2, c3, c4, c5, c6, c7, c8⟩ := hc
  exact runSX (n := 2) (Ts := lw_gd) (C := q.1) (b := ga g a) (As := [a0, a1]) ((C.2.2.2.2.2.2.2).K.1 ci q hq).2 ⟨C.1, C.2.1, C.2.2.2.1, C.2.2.2.2.1, hts⟩ hM ⟨rfl, rfl, (rm_fit hm (Nat.le_of_ble_eq_true hd)).1, (rm_fit hm (Nat.le_of_ble_eq_true hd)).2, pay_in hts (gd_cons hm), List.mem_cons_self⟩ (hts _ c1) (hts _ c2) (hts _ c3) (hts _ c4) (hts _ c5) (hts _ hm.2.1) (hts _ hm.1) c6 c7 c8 (fun sig h => by have h2 := hm.2.2.1.2.2; rw [h] at h2; exact (Option.some.inj h2).symm) ⟨blind _ m, recv C R ho hq, fun U hU hW => ⟨rfl, by rw [hU]; exact R, (C.2.2.2.2.2.2.2).alike hW.alike⟩⟩ rfl rfl L.1 rfl (lv_room (Nat.le_of_ble_eq_true hw)) hdg ⟨Nat.le_refl _, Nat.le_refl _⟩
end JSX
theorem cx_X3_23 : CSx RX3 23 ⟨RX7, "tells", "(LDustSills$Speech;I)I"⟩ mX5_tells 2 := ⟨mi_X5_tells, gd (List.mem_of_getElem? (i := 917) (by decide +kernel)) rfl, gd (List.mem_of_getElem? (i := 918) (by decide +kernel)) rfl, gd (List.mem_of_getElem? (i := 128) (by decide +kernel)) rfl, gd (List.mem_of_getElem? (i := 107) (by decide +kernel)) rfl, gd (List.mem_of_getElem? (i := 907) (by decide +kernel)) rfl, by decide, rfl, rfl⟩
theorem cx_X4_43 : CSx RX4 43 ⟨RX0, "tells", "(LDustSills$Speech;I)I"⟩ mX5_tells 2 := ⟨mi_X5_tells, gd (List.mem_of_getElem? (i := 931) (by decide +kernel)) rfl, gd (List.mem_of_getElem? (i := 932) (by decide +kernel)) rfl, gd (List.mem_of_getElem? (i := 142) (by decide +kernel)) rfl, gd (List.mem_of_getElem? (i := 121) (by decide +kernel)) rfl, gd (List.mem_of_getElem? (i := 907) (by decide +kernel)) rfl, by decide, rfl, rfl⟩
