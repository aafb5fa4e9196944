/-! THE JUDGEMENT JX: a frame under any knowledge K of the machine; the rows that touch no cell hold for every K -/
abbrev Kn : Type := Program → Env → Room → State → MethodId → Array Value → List Frame → Method → Code → Heap → List Loc → Nat → Nat → (State → Prop) → Prop
def JX (l : Launch) (g : Gv) (y : MD) (K : Kn) (pc : Nat) (ls : List (Option Value)) (st : List Value) : Prop :=
  ∀ (p : Program) (e : Env) (R : Room) (s : State) (mi : MethodId) (args : Array Value) (below : List Frame) (meth : Method) (c : Code) (H : Heap) (locs : List Loc) (cells slots : Nat) (Q : State → Prop) (la : Array Slot),
    Cx g y p s mi args meth c → K p e R s mi args below meth c H locs cells slots Q → lv_has la y.2.2.1 (lvl 0 ls) →
    W p l e R s mi args below meth c H locs cells slots Q (F0 mi pc la st)
theorem JX.mono {l : Launch} {g : Gv} {y : MD} {K K' : Kn} {pc : Nat} {ls : List (Option Value)} {st : List Value} (h : JX l g y K' pc ls st) (hk : ∀ p e R s mi args below meth c H locs cells slots Q, K p e R s mi args below meth c H locs cells slots Q → K' p e R s mi args below meth c H locs cells slots Q) : JX l g y K pc ls st :=
  fun p e R s mi args below meth c H locs cells slots Q la C K0 L => h p e R s mi args below meth c H locs cells slots Q la C (hk _ _ _ _ _ _ _ _ _ _ _ _ _ _ K0) L
section JXR
variable {l : Launch} {g : Gv} {y : MD} {pc : Nat} {ls : List (Option Value)} {st : List Value} {K : Kn}
theorem x_iconst (pc' : Nat) {n : Int} {v : Int32} (hdg : decode y.2.1 pc = .ok (.iconst n, 1)) (hp : pc + 1 = pc') (hv : Int32.ofInt n = v) (kk : JX l g y K pc' ls (.int v :: st)) : JX l g y K pc ls (st) := by
  intro p e R s mi args below meth c H locs cells slots Q la C K0 L
  subst hp
  exact lv_iconst C.1 C.2.1 hdg hv (kk p e R s mi args below meth c H locs cells slots Q la C K0 L)
theorem x_bipush (pc' : Nat) {n : Int} {v : Int32} (hdg : decode y.2.1 pc = .ok (.bipush n, 2)) (hp : pc + 2 = pc') (hv : (Int8.ofInt n).toInt32 = v) (kk : JX l g y K pc' ls (.int v :: st)) : JX l g y K pc ls (st) := by
  intro p e R s mi args below meth c H locs cells slots Q la C K0 L
  subst hp
  exact lv_bipush C.1 C.2.1 hdg hv (kk p e R s mi args below meth c H locs cells slots Q la C K0 L)
theorem x_sipush (pc' : Nat) {n : Int} {v : Int32} (hdg : decode y.2.1 pc = .ok (.sipush n, 3)) (hp : pc + 3 = pc') (hv : (Int16.ofInt n).toInt32 = v) (kk : JX l g y K pc' ls (.int v :: st)) : JX l g y K pc ls (st) := by
  intro p e R s mi args below meth c H locs cells slots Q la C K0 L
  subst hp
  exact lv_sipush C.1 C.2.1 hdg hv (kk p e R s mi args below meth c H locs cells slots Q la C K0 L)
theorem x_iadd (pc' : Nat) {x z : Int32} (hdg : decode y.2.1 pc = .ok (.iadd, 1)) (hp : pc + 1 = pc') (kk : JX l g y K pc' ls (.int (x + z) :: st)) : JX l g y K pc ls (.int z :: .int x :: st) := by
  intro p e R s mi args below meth c H locs cells slots Q la C K0 L
  subst hp
  exact lv_iadd C.1 C.2.1 hdg (kk p e R s mi args below meth c H locs cells slots Q la C K0 L)
theorem x_irem (pc' : Nat) {x z : Int32} (hdg : decode y.2.1 pc = .ok (.irem, 1)) (hp : pc + 1 = pc') (hne : ¬ z = 0) (kk : JX l g y K pc' ls (.int (x - x / z * z) :: st)) : JX l g y K pc ls (.int z :: .int x :: st) := by
  intro p e R s mi args below meth c H locs cells slots Q la C K0 L
  subst hp
  exact lv_irem C.1 C.2.1 hdg hne (kk p e R s mi args below meth c H locs cells slots Q la C K0 L)
theorem x_land (pc' : Nat) {x z : Int64} (hdg : decode y.2.1 pc = .ok (.land, 1)) (hp : pc + 1 = pc') (kk : JX l g y K pc' ls (.long (x &&& z) :: st)) : JX l g y K pc ls (.long z :: .long x :: st) := by
  intro p e R s mi args below meth c H locs cells slots Q la C K0 L
  subst hp
  exact lv_land C.1 C.2.1 hdg (kk p e R s mi args below meth c H locs cells slots Q la C K0 L)
theorem x_lor (pc' : Nat) {x z : Int64} (hdg : decode y.2.1 pc = .ok (.lor, 1)) (hp : pc + 1 = pc') (kk : JX l g y K pc' ls (.long (x ||| z) :: st)) : JX l g y K pc ls (.long z :: .long x :: st) := by
  intro p e R s mi args below meth c H locs cells slots Q la C K0 L
  subst hp
  exact lv_lor C.1 C.2.1 hdg (kk p e R s mi args below meth c H locs cells slots Q la C K0 L)
theorem x_i2l (pc' : Nat) {x : Int32} (hdg : decode y.2.1 pc = .ok (.i2l, 1)) (hp : pc + 1 = pc') (kk : JX l g y K pc' ls (.long (x.toInt64) :: st)) : JX l g y K pc ls (.int x :: st) := by
  intro p e R s mi args below meth c H locs cells slots Q la C K0 L
  subst hp
  exact lv_i2l C.1 C.2.1 hdg rfl (kk p e R s mi args below meth c H locs cells slots Q la C K0 L)
theorem x_lshl (pc' : Nat) {x : Int64} {z : Int32} (hdg : decode y.2.1 pc = .ok (.lshl, 1)) (hp : pc + 1 = pc') (kk : JX l g y K pc' ls (.long (x <<< (z.toInt64 &&& 63)) :: st)) : JX l g y K pc ls (.int z :: .long x :: st) := by
  intro p e R s mi args below meth c H locs cells slots Q la C K0 L
  subst hp
  exact lv_lshl C.1 C.2.1 hdg rfl (kk p e R s mi args below meth c H locs cells slots Q la C K0 L)
theorem x_dup (pc' : Nat) {v : Value} (hdg : decode y.2.1 pc = .ok (.dup, 1)) (hp : pc + 1 = pc') (hv : v.category = 1) (kk : JX l g y K pc' ls (v :: v :: st)) : JX l g y K pc ls (v :: st) := by
  intro p e R s mi args below meth c H locs cells slots Q la C K0 L
  subst hp
  exact lv_dup C.1 C.2.1 hdg hv (kk p e R s mi args below meth c H locs cells slots Q la C K0 L)
theorem x_pop (pc' : Nat) {v : Value} (hdg : decode y.2.1 pc = .ok (.pop, 1)) (hp : pc + 1 = pc') (hv : v.category = 1) (kk : JX l g y K pc' ls (st)) : JX l g y K pc ls (v :: st) := by
  intro p e R s mi args below meth c H locs cells slots Q la C K0 L
  subst hp
  exact lv_pop C.1 C.2.1 hdg hv (kk p e R s mi args below meth c H locs cells slots Q la C K0 L)
theorem x_ldc2 (pc' : Nat) {i : Nat} {v : Int64} (hdg : decode y.2.1 pc = .ok (.ldc2_w i, 3)) (hp : pc + 3 = pc') (hc : Cond.constantLong y.1.cls i v ∈ lw_gd) (kk : JX l g y K pc' ls (.long v :: st)) : JX l g y K pc ls st := by
  intro p e R s mi args below meth c H locs cells slots Q la C K0 L
  subst hp
  exact lv_ldc2 C.1 C.2.1 C.2.2.2.2.1 (C.2.2.2.2.2.1 _ hc) hdg (kk p e R s mi args below meth c H locs cells slots Q la C K0 L)
theorem x_cmp_eq (tgt : Nat) (pc' : Nat) {x z : Int32} {off : Int} (hdg : decode y.2.1 pc = .ok (.if_icmp .eq off, 3)) (ht : (pc : Int) + off = (tgt : Int)) (hp : pc + 3 = pc') (kt : x = z → JX l g y K tgt ls st) (kf : ¬ (x = z) → JX l g y K pc' ls st) : JX l g y K pc ls (.int z :: .int x :: st) := by
  intro p e R s mi args below meth c H locs cells slots Q la C K0 L
  subst hp
  exact lv_icmp_eq C.1 C.2.1 hdg ht (fun h => kt h p e R s mi args below meth c H locs cells slots Q la C K0 L) (fun h => kf h p e R s mi args below meth c H locs cells slots Q la C K0 L)
theorem x_cmp_ne (tgt : Nat) (pc' : Nat) {x z : Int32} {off : Int} (hdg : decode y.2.1 pc = .ok (.if_icmp .ne off, 3)) (ht : (pc : Int) + off = (tgt : Int)) (hp : pc + 3 = pc') (kt : x ≠ z → JX l g y K tgt ls st) (kf : x = z → JX l g y K pc' ls st) : JX l g y K pc ls (.int z :: .int x :: st) := by
  intro p e R s mi args below meth c H locs cells slots Q la C K0 L
  subst hp
  exact lv_icmp_ne C.1 C.2.1 hdg ht (fun h => kt h p e R s mi args below meth c H locs cells slots Q la C K0 L) (fun h => kf h p e R s mi args below meth c H locs cells slots Q la C K0 L)
theorem x_cmp_ge (tgt : Nat) (pc' : Nat) {x z : Int32} {off : Int} (hdg : decode y.2.1 pc = .ok (.if_icmp .ge off, 3)) (ht : (pc : Int) + off = (tgt : Int)) (hp : pc + 3 = pc') (kt : z ≤ x → JX l g y K tgt ls st) (kf : ¬ (z ≤ x) → JX l g y K pc' ls st) : JX l g y K pc ls (.int z :: .int x :: st) := by
  intro p e R s mi args below meth c H locs cells slots Q la C K0 L
  subst hp
  exact lv_icmp_ge C.1 C.2.1 hdg ht (fun h => kt h p e R s mi args below meth c H locs cells slots Q la C K0 L) (fun h => kf h p e R s mi args below meth c H locs cells slots Q la C K0 L)
theorem x_cmp_gt (tgt : Nat) (pc' : Nat) {x z : Int32} {off : Int} (hdg : decode y.2.1 pc = .ok (.if_icmp .gt off, 3)) (ht : (pc : Int) + off = (tgt : Int)) (hp : pc + 3 = pc') (kt : z < x → JX l g y K tgt ls st) (kf : ¬ (z < x) → JX l g y K pc' ls st) : JX l g y K pc ls (.int z :: .int x :: st) := by
  intro p e R s mi args below meth c H locs cells slots Q la C K0 L
  subst hp
  exact lv_icmp_gt C.1 C.2.1 hdg ht (fun h => kt h p e R s mi args below meth c H locs cells slots Q la C K0 L) (fun h => kf h p e R s mi args below meth c H locs cells slots Q la C K0 L)
theorem x_goto (tgt : Nat) {off : Int} (hdg : decode y.2.1 pc = .ok (.goto off, 3)) (ht : (pc : Int) + off = (tgt : Int)) (kk : JX l g y K tgt ls st) : JX l g y K pc ls st := by
  intro p e R s mi args below meth c H locs cells slots Q la C K0 L
  exact lv_goto C.1 C.2.1 hdg ht (kk p e R s mi args below meth c H locs cells slots Q la C K0 L)
theorem x_tabOut (tgt : Nat) {dflt lo hi : Int} {offs : Array Int} {len : Nat} {x : Int32} (hdg : decode y.2.1 pc = .ok (.tableswitch dflt lo hi offs, len)) (h : x.toInt < lo ∨ hi < x.toInt) (ht : (pc : Int) + dflt = (tgt : Int)) (kk : JX l g y K tgt ls st) : JX l g y K pc ls (.int x :: st) := by
  intro p e R s mi args below meth c H locs cells slots Q la C K0 L
  exact lv_tableOut C.1 C.2.1 hdg h ht (kk p e R s mi args below meth c H locs cells slots Q la C K0 L)
theorem x_tabIn (tgt : Nat) {dflt lo hi : Int} {offs : Array Int} {len : Nat} {x : Int32} {off : Int} (hdg : decode y.2.1 pc = .ok (.tableswitch dflt lo hi offs, len)) (h1 : ¬ x.toInt < lo) (h2 : ¬ hi < x.toInt) (ho : offs[(x.toInt - lo).toNat]? = some off) (ht : (pc : Int) + off = (tgt : Int)) (kk : JX l g y K tgt ls st) : JX l g y K pc ls (.int x :: st) := by
  intro p e R s mi args below meth c H locs cells slots Q la C K0 L
  exact lv_tableIn C.1 C.2.1 hdg h1 h2 ho ht (kk p e R s mi args below meth c H locs cells slots Q la C K0 L)
theorem xg_iload_n (pc' : Nat) {k : Fin 4} (i : Nat) {x : Int32} (hi : (k : Nat) = i) (hdg : decode y.2.1 pc = .ok (.iload_n k, 1)) (hp : pc + 1 = pc') (hl : ls[i]? = some (some (.int x))) (kk : JX l g y K pc' ls (.int x :: st)) : JX l g y K pc ls st := by
  intro p e R s mi args below meth c H locs cells slots Q la C K0 L
  subst hp
  exact lv_iload_n C.1 C.2.1 hdg hi (lv_rd L hl) (kk p e R s mi args below meth c H locs cells slots Q la C K0 L)
theorem xg_iload (pc' : Nat) (i : Nat) {x : Int32} (hdg : decode y.2.1 pc = .ok (.iload i, 2)) (hp : pc + 2 = pc') (hl : ls[i]? = some (some (.int x))) (kk : JX l g y K pc' ls (.int x :: st)) : JX l g y K pc ls st := by
  intro p e R s mi args below meth c H locs cells slots Q la C K0 L
  subst hp
  exact lv_iload C.1 C.2.1 hdg (lv_rd L hl) (kk p e R s mi args below meth c H locs cells slots Q la C K0 L)
theorem xg_aload_n (pc' : Nat) {k : Fin 4} (i : Nat) {x : Nat} (hi : (k : Nat) = i) (hdg : decode y.2.1 pc = .ok (.aload_n k, 1)) (hp : pc + 1 = pc') (hl : ls[i]? = some (some (rf g x))) (kk : JX l g y K pc' ls (rf g x :: st)) : JX l g y K pc ls st := by
  intro p e R s mi args below meth c H locs cells slots Q la C K0 L
  subst hp
  exact lv_aload_n C.1 C.2.1 hdg hi (lv_rd L hl) (kk p e R s mi args below meth c H locs cells slots Q la C K0 L)
theorem xg_aload (pc' : Nat) (i : Nat) {x : Nat} (hdg : decode y.2.1 pc = .ok (.aload i, 2)) (hp : pc + 2 = pc') (hl : ls[i]? = some (some (rf g x))) (kk : JX l g y K pc' ls (rf g x :: st)) : JX l g y K pc ls st := by
  intro p e R s mi args below meth c H locs cells slots Q la C K0 L
  subst hp
  exact lv_aload C.1 C.2.1 hdg (lv_rd L hl) (kk p e R s mi args below meth c H locs cells slots Q la C K0 L)
theorem xg_istore_n (pc' : Nat) {k : Fin 4} (i : Nat) {x : Int32} (hi : (k : Nat) = i) (hdg : decode y.2.1 pc = .ok (.istore_n k, 1)) (hp : pc + 1 = pc') (hn : i < y.2.2.1) (hc : ∀ j o, j + 1 = i → ls[j]? = some o → okc o = true) (kk : JX l g y K pc' (ls.set i (some (.int x))) st) : JX l g y K pc ls (.int x :: st) := by
  intro p e R s mi args below meth c H locs cells slots Q la C K0 L
  subst hp
  exact lv_istore_n C.1 C.2.1 hdg hi L hn rfl (fun la' hl => kk p e R s mi args below meth c H locs cells slots Q la' C K0 (lv_wr hl hc))
theorem xg_astore_n (pc' : Nat) {k : Fin 4} (i : Nat) {x : Nat} (hi : (k : Nat) = i) (hdg : decode y.2.1 pc = .ok (.astore_n k, 1)) (hp : pc + 1 = pc') (hn : i < y.2.2.1) (hc : ∀ j o, j + 1 = i → ls[j]? = some o → okc o = true) (kk : JX l g y K pc' (ls.set i (some (rf g x))) st) : JX l g y K pc ls (rf g x :: st) := by
  intro p e R s mi args below meth c H locs cells slots Q la C K0 L
  subst hp
  exact lv_astore_n C.1 C.2.1 hdg hi L hn rfl (fun la' hl => kk p e R s mi args below meth c H locs cells slots Q la' C K0 (lv_wr hl hc))
theorem xg_iinc (pc' : Nat) (i : Nat) {n : Int} {x v : Int32} (hdg : decode y.2.1 pc = .ok (.iinc i n, 3)) (hp : pc + 3 = pc') (hl : ls[i]? = some (some (.int x))) (hv : x + Int32.ofInt n = v) (hn : i < y.2.2.1) (hc : ∀ j o, j + 1 = i → ls[j]? = some o → okc o = true) (kk : JX l g y K pc' (ls.set i (some (.int v))) st) : JX l g y K pc ls st := by
  intro p e R s mi args below meth c H locs cells slots Q la C K0 L
  subst hp
  have hm := lvl_mem ls 0 i _ hl
  rw [Nat.zero_add] at hm
  obtain ⟨k, hk⟩ := List.getElem?_of_mem hm
  exact lv_iinc C.1 C.2.1 hdg L hk hv hn rfl (fun la' hl => kk p e R s mi args below meth c H locs cells slots Q la' C K0 (lv_wr hl hc))
theorem x_iload0 (pc' : Nat) {r : List (Option Value)} {x : Int32} (hdg : decode y.2.1 pc = .ok (.iload_n 0, 1)) (hp : pc + 1 = pc') (kk : JX l g y K pc' (some (.int x) :: r) (.int x :: st)) : JX l g y K pc (some (.int x) :: r) st := xg_iload_n pc' 0 rfl hdg hp rfl kk
theorem x_aload0 (pc' : Nat) {r : List (Option Value)} {x : Nat} (hdg : decode y.2.1 pc = .ok (.aload_n 0, 1)) (hp : pc + 1 = pc') (kk : JX l g y K pc' (some (rf g x) :: r) (rf g x :: st)) : JX l g y K pc (some (rf g x) :: r) st := xg_aload_n pc' 0 rfl hdg hp rfl kk
theorem x_istore0 (pc' : Nat) {o : Option Value} {r : List (Option Value)} {x : Int32} (hdg : decode y.2.1 pc = .ok (.istore_n 0, 1)) (hp : pc + 1 = pc') (hn : Nat.blt 0 y.2.2.1 = true) (kk : JX l g y K pc' (some (.int x) :: r) st) : JX l g y K pc (o :: r) (.int x :: st) := xg_istore_n pc' 0 rfl hdg hp (Nat.le_of_ble_eq_true hn) (fun j o h => absurd h (by omega)) kk
theorem x_astore0 (pc' : Nat) {o : Option Value} {r : List (Option Value)} {x : Nat} (hdg : decode y.2.1 pc = .ok (.astore_n 0, 1)) (hp : pc + 1 = pc') (hn : Nat.blt 0 y.2.2.1 = true) (kk : JX l g y K pc' (some (rf g x) :: r) st) : JX l g y K pc (o :: r) (rf g x :: st) := xg_astore_n pc' 0 rfl hdg hp (Nat.le_of_ble_eq_true hn) (fun j o h => absurd h (by omega)) kk
theorem x_iinc0 (pc' : Nat) {r : List (Option Value)} {n : Int} {x : Int32} (v : Int32) (hdg : decode y.2.1 pc = .ok (.iinc 0 n, 3)) (hp : pc + 3 = pc') (hn : Nat.blt 0 y.2.2.1 = true) (hv : Int32.ofInt n = v) (kk : JX l g y K pc' (some (.int (x + v)) :: r) st) : JX l g y K pc (some (.int x) :: r) st := xg_iinc pc' 0 hdg hp rfl (by rw [hv]) (Nat.le_of_ble_eq_true hn) (fun j o h => absurd h (by omega)) kk
theorem x_iload1 (pc' : Nat) {x0 : Option Value} {r : List (Option Value)} {x : Int32} (hdg : decode y.2.1 pc = .ok (.iload_n 1, 1)) (hp : pc + 1 = pc') (kk : JX l g y K pc' (x0 :: some (.int x) :: r) (.int x :: st)) : JX l g y K pc (x0 :: some (.int x) :: r) st := xg_iload_n pc' 1 rfl hdg hp rfl kk
theorem x_aload1 (pc' : Nat) {x0 : Option Value} {r : List (Option Value)} {x : Nat} (hdg : decode y.2.1 pc = .ok (.aload_n 1, 1)) (hp : pc + 1 = pc') (kk : JX l g y K pc' (x0 :: some (rf g x) :: r) (rf g x :: st)) : JX l g y K pc (x0 :: some (rf g x) :: r) st := xg_aload_n pc' 1 rfl hdg hp rfl kk
theorem x_istore1 (pc' : Nat) {x0 : Option Value} {o : Option Value} {r : List (Option Value)} {x : Int32} (hdg : decode y.2.1 pc = .ok (.istore_n 1, 1)) (hp : pc + 1 = pc') (hn : Nat.blt 1 y.2.2.1 = true) (hc : okc x0 = true) (kk : JX l g y K pc' (x0 :: some (.int x) :: r) st) : JX l g y K pc (x0 :: o :: r) (.int x :: st) := xg_istore_n pc' 1 rfl hdg hp (Nat.le_of_ble_eq_true hn) (okc_at rfl hc) kk
theorem x_astore1 (pc' : Nat) {x0 : Option Value} {o : Option Value} {r : List (Option Value)} {x : Nat} (hdg : decode y.2.1 pc = .ok (.astore_n 1, 1)) (hp : pc + 1 = pc') (hn : Nat.blt 1 y.2.2.1 = true) (hc : okc x0 = true) (kk : JX l g y K pc' (x0 :: some (rf g x) :: r) st) : JX l g y K pc (x0 :: o :: r) (rf g x :: st) := xg_astore_n pc' 1 rfl hdg hp (Nat.le_of_ble_eq_true hn) (okc_at rfl hc) kk
theorem x_iinc1 (pc' : Nat) {x0 : Option Value} {r : List (Option Value)} {n : Int} {x : Int32} (v : Int32) (hdg : decode y.2.1 pc = .ok (.iinc 1 n, 3)) (hp : pc + 3 = pc') (hn : Nat.blt 1 y.2.2.1 = true) (hc : okc x0 = true) (hv : Int32.ofInt n = v) (kk : JX l g y K pc' (x0 :: some (.int (x + v)) :: r) st) : JX l g y K pc (x0 :: some (.int x) :: r) st := xg_iinc pc' 1 hdg hp rfl (by rw [hv]) (Nat.le_of_ble_eq_true hn) (okc_at rfl hc) kk
theorem x_iload2 (pc' : Nat) {x0 x1 : Option Value} {r : List (Option Value)} {x : Int32} (hdg : decode y.2.1 pc = .ok (.iload_n 2, 1)) (hp : pc + 1 = pc') (kk : JX l g y K pc' (x0 :: x1 :: some (.int x) :: r) (.int x :: st)) : JX l g y K pc (x0 :: x1 :: some (.int x) :: r) st := xg_iload_n pc' 2 rfl hdg hp rfl kk
theorem x_aload2 (pc' : Nat) {x0 x1 : Option Value} {r : List (Option Value)} {x : Nat} (hdg : decode y.2.1 pc = .ok (.aload_n 2, 1)) (hp : pc + 1 = pc') (kk : JX l g y K pc' (x0 :: x1 :: some (rf g x) :: r) (rf g x :: st)) : JX l g y K pc (x0 :: x1 :: some (rf g x) :: r) st := xg_aload_n pc' 2 rfl hdg hp rfl kk
theorem x_istore2 (pc' : Nat) {x0 x1 : Option Value} {o : Option Value} {r : List (Option Value)} {x : Int32} (hdg : decode y.2.1 pc = .ok (.istore_n 2, 1)) (hp : pc + 1 = pc') (hn : Nat.blt 2 y.2.2.1 = true) (hc : okc x1 = true) (kk : JX l g y K pc' (x0 :: x1 :: some (.int x) :: r) st) : JX l g y K pc (x0 :: x1 :: o :: r) (.int x :: st) := xg_istore_n pc' 2 rfl hdg hp (Nat.le_of_ble_eq_true hn) (okc_at rfl hc) kk
theorem x_astore2 (pc' : Nat) {x0 x1 : Option Value} {o : Option Value} {r : List (Option Value)} {x : Nat} (hdg : decode y.2.1 pc = .ok (.astore_n 2, 1)) (hp : pc + 1 = pc') (hn : Nat.blt 2 y.2.2.1 = true) (hc : okc x1 = true) (kk : JX l g y K pc' (x0 :: x1 :: some (rf g x) :: r) st) : JX l g y K pc (x0 :: x1 :: o :: r) (rf g x :: st) := xg_astore_n pc' 2 rfl hdg hp (Nat.le_of_ble_eq_true hn) (okc_at rfl hc) kk
theorem x_iinc2 (pc' : Nat) {x0 x1 : Option Value} {r : List (Option Value)} {n : Int} {x : Int32} (v : Int32) (hdg : decode y.2.1 pc = .ok (.iinc 2 n, 3)) (hp : pc + 3 = pc') (hn : Nat.blt 2 y.2.2.1 = true) (hc : okc x1 = true) (hv : Int32.ofInt n = v) (kk : JX l g y K pc' (x0 :: x1 :: some (.int (x + v)) :: r) st) : JX l g y K pc (x0 :: x1 :: some (.int x) :: r) st := xg_iinc pc' 2 hdg hp rfl (by rw [hv]) (Nat.le_of_ble_eq_true hn) (okc_at rfl hc) kk
theorem x_iload3 (pc' : Nat) {x0 x1 x2 : Option Value} {r : List (Option Value)} {x : Int32} (hdg : decode y.2.1 pc = .ok (.iload_n 3, 1)) (hp : pc + 1 = pc') (kk : JX l g y K pc' (x0 :: x1 :: x2 :: some (.int x) :: r) (.int x :: st)) : JX l g y K pc (x0 :: x1 :: x2 :: some (.int x) :: r) st := xg_iload_n pc' 3 rfl hdg hp rfl kk
theorem x_aload3 (pc' : Nat) {x0 x1 x2 : Option Value} {r : List (Option Value)} {x : Nat} (hdg : decode y.2.1 pc = .ok (.aload_n 3, 1)) (hp : pc + 1 = pc') (kk : JX l g y K pc' (x0 :: x1 :: x2 :: some (rf g x) :: r) (rf g x :: st)) : JX l g y K pc (x0 :: x1 :: x2 :: some (rf g x) :: r) st := xg_aload_n pc' 3 rfl hdg hp rfl kk
theorem x_istore3 (pc' : Nat) {x0 x1 x2 : Option Value} {o : Option Value} {r : List (Option Value)} {x : Int32} (hdg : decode y.2.1 pc = .ok (.istore_n 3, 1)) (hp : pc + 1 = pc') (hn : Nat.blt 3 y.2.2.1 = true) (hc : okc x2 = true) (kk : JX l g y K pc' (x0 :: x1 :: x2 :: some (.int x) :: r) st) : JX l g y K pc (x0 :: x1 :: x2 :: o :: r) (.int x :: st) := xg_istore_n pc' 3 rfl hdg hp (Nat.le_of_ble_eq_true hn) (okc_at rfl hc) kk
theorem x_astore3 (pc' : Nat) {x0 x1 x2 : Option Value} {o : Option Value} {r : List (Option Value)} {x : Nat} (hdg : decode y.2.1 pc = .ok (.astore_n 3, 1)) (hp : pc + 1 = pc') (hn : Nat.blt 3 y.2.2.1 = true) (hc : okc x2 = true) (kk : JX l g y K pc' (x0 :: x1 :: x2 :: some (rf g x) :: r) st) : JX l g y K pc (x0 :: x1 :: x2 :: o :: r) (rf g x :: st) := xg_astore_n pc' 3 rfl hdg hp (Nat.le_of_ble_eq_true hn) (okc_at rfl hc) kk
theorem x_iinc3 (pc' : Nat) {x0 x1 x2 : Option Value} {r : List (Option Value)} {n : Int} {x : Int32} (v : Int32) (hdg : decode y.2.1 pc = .ok (.iinc 3 n, 3)) (hp : pc + 3 = pc') (hn : Nat.blt 3 y.2.2.1 = true) (hc : okc x2 = true) (hv : Int32.ofInt n = v) (kk : JX l g y K pc' (x0 :: x1 :: x2 :: some (.int (x + v)) :: r) st) : JX l g y K pc (x0 :: x1 :: x2 :: some (.int x) :: r) st := xg_iinc pc' 3 hdg hp rfl (by rw [hv]) (Nat.le_of_ble_eq_true hn) (okc_at rfl hc) kk
end JXR
