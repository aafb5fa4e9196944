theorem okc_at {ls : List (Option Value)} {i : Nat} {x : Option Value} (hl : ls[i]? = some x) (hc : okc x = true) : ∀ j o, j + 1 = i + 1 → ls[j]? = some o → okc o = true := by
  intro j o h ho
  have e : j = i := by omega
  subst e
  rw [hl] at ho
  cases ho
  exact hc
section JR
variable {l : Launch} {g : Gv} {d : Nat} {y : MD} {pc : Nat} {ls : List (Option Value)} {st : List Value} {m : Mem} {Q : Option Value → Mem → Prop}
theorem j_iconst (pc' : Nat) {n : Int} {v : Int32} (hdg : decode y.2.1 pc = .ok (.iconst n, 1)) (hp : pc + 1 = pc') (hv : Int32.ofInt n = v) (kk : J l g d y pc' ls (.int v :: st) m Q) : J l g d y pc ls (st) m Q := by
  intro p e s mi args below meth c H locs la C R S L
  subst hp
  exact lv_iconst C.1 C.2.1 hdg hv (kk p e s mi args below meth c H locs la C R S L)
theorem j_bipush (pc' : Nat) {n : Int} {v : Int32} (hdg : decode y.2.1 pc = .ok (.bipush n, 2)) (hp : pc + 2 = pc') (hv : (Int8.ofInt n).toInt32 = v) (kk : J l g d y pc' ls (.int v :: st) m Q) : J l g d y pc ls (st) m Q := by
  intro p e s mi args below meth c H locs la C R S L
  subst hp
  exact lv_bipush C.1 C.2.1 hdg hv (kk p e s mi args below meth c H locs la C R S L)
theorem j_sipush (pc' : Nat) {n : Int} {v : Int32} (hdg : decode y.2.1 pc = .ok (.sipush n, 3)) (hp : pc + 3 = pc') (hv : (Int16.ofInt n).toInt32 = v) (kk : J l g d y pc' ls (.int v :: st) m Q) : J l g d y pc ls (st) m Q := by
  intro p e s mi args below meth c H locs la C R S L
  subst hp
  exact lv_sipush C.1 C.2.1 hdg hv (kk p e s mi args below meth c H locs la C R S L)
theorem j_lconst (pc' : Nat) {n : Fin 2} {v : Int64} (hdg : decode y.2.1 pc = .ok (.lconst n, 1)) (hp : pc + 1 = pc') (hv : Int64.ofNat (n : Nat) = v) (kk : J l g d y pc' ls (.long v :: st) m Q) : J l g d y pc ls (st) m Q := by
  intro p e s mi args below meth c H locs la C R S L
  subst hp
  exact lv_lconst C.1 C.2.1 hdg hv (kk p e s mi args below meth c H locs la C R S L)
theorem j_iadd (pc' : Nat) {x z : Int32} (hdg : decode y.2.1 pc = .ok (.iadd, 1)) (hp : pc + 1 = pc') (kk : J l g d y pc' ls (.int (x + z) :: st) m Q) : J l g d y pc ls (.int z :: .int x :: st) m Q := by
  intro p e s mi args below meth c H locs la C R S L
  subst hp
  exact lv_iadd C.1 C.2.1 hdg (kk p e s mi args below meth c H locs la C R S L)
theorem j_isub (pc' : Nat) {x z : Int32} (hdg : decode y.2.1 pc = .ok (.isub, 1)) (hp : pc + 1 = pc') (kk : J l g d y pc' ls (.int (x - z) :: st) m Q) : J l g d y pc ls (.int z :: .int x :: st) m Q := by
  intro p e s mi args below meth c H locs la C R S L
  subst hp
  exact lv_isub C.1 C.2.1 hdg (kk p e s mi args below meth c H locs la C R S L)
theorem j_imul (pc' : Nat) {x z : Int32} (hdg : decode y.2.1 pc = .ok (.imul, 1)) (hp : pc + 1 = pc') (kk : J l g d y pc' ls (.int (x * z) :: st) m Q) : J l g d y pc ls (.int z :: .int x :: st) m Q := by
  intro p e s mi args below meth c H locs la C R S L
  subst hp
  exact lv_imul C.1 C.2.1 hdg (kk p e s mi args below meth c H locs la C R S L)
theorem j_iand (pc' : Nat) {x z : Int32} (hdg : decode y.2.1 pc = .ok (.iand, 1)) (hp : pc + 1 = pc') (kk : J l g d y pc' ls (.int (x &&& z) :: st) m Q) : J l g d y pc ls (.int z :: .int x :: st) m Q := by
  intro p e s mi args below meth c H locs la C R S L
  subst hp
  exact lv_iand C.1 C.2.1 hdg (kk p e s mi args below meth c H locs la C R S L)
theorem j_ior (pc' : Nat) {x z : Int32} (hdg : decode y.2.1 pc = .ok (.ior, 1)) (hp : pc + 1 = pc') (kk : J l g d y pc' ls (.int (x ||| z) :: st) m Q) : J l g d y pc ls (.int z :: .int x :: st) m Q := by
  intro p e s mi args below meth c H locs la C R S L
  subst hp
  exact lv_ior C.1 C.2.1 hdg (kk p e s mi args below meth c H locs la C R S L)
theorem j_ixor (pc' : Nat) {x z : Int32} (hdg : decode y.2.1 pc = .ok (.ixor, 1)) (hp : pc + 1 = pc') (kk : J l g d y pc' ls (.int (x ^^^ z) :: st) m Q) : J l g d y pc ls (.int z :: .int x :: st) m Q := by
  intro p e s mi args below meth c H locs la C R S L
  subst hp
  exact lv_ixor C.1 C.2.1 hdg (kk p e s mi args below meth c H locs la C R S L)
theorem j_ishl (pc' : Nat) {x z : Int32} (hdg : decode y.2.1 pc = .ok (.ishl, 1)) (hp : pc + 1 = pc') (kk : J l g d y pc' ls (.int (x <<< (z &&& 31)) :: st) m Q) : J l g d y pc ls (.int z :: .int x :: st) m Q := by
  intro p e s mi args below meth c H locs la C R S L
  subst hp
  exact lv_ishl C.1 C.2.1 hdg (kk p e s mi args below meth c H locs la C R S L)
theorem j_ishr (pc' : Nat) {x z : Int32} (hdg : decode y.2.1 pc = .ok (.ishr, 1)) (hp : pc + 1 = pc') (kk : J l g d y pc' ls (.int (x >>> (z &&& 31)) :: st) m Q) : J l g d y pc ls (.int z :: .int x :: st) m Q := by
  intro p e s mi args below meth c H locs la C R S L
  subst hp
  exact lv_ishr C.1 C.2.1 hdg (kk p e s mi args below meth c H locs la C R S L)
theorem j_idiv (pc' : Nat) {x z : Int32} (hdg : decode y.2.1 pc = .ok (.idiv, 1)) (hp : pc + 1 = pc') (hne : ¬ z = 0) (kk : J l g d y pc' ls (.int (x / z) :: st) m Q) : J l g d y pc ls (.int z :: .int x :: st) m Q := by
  intro p e s mi args below meth c H locs la C R S L
  subst hp
  exact lv_idiv C.1 C.2.1 hdg hne (kk p e s mi args below meth c H locs la C R S L)
theorem j_irem (pc' : Nat) {x z : Int32} (hdg : decode y.2.1 pc = .ok (.irem, 1)) (hp : pc + 1 = pc') (hne : ¬ z = 0) (kk : J l g d y pc' ls (.int (x - x / z * z) :: st) m Q) : J l g d y pc ls (.int z :: .int x :: st) m Q := by
  intro p e s mi args below meth c H locs la C R S L
  subst hp
  exact lv_irem C.1 C.2.1 hdg hne (kk p e s mi args below meth c H locs la C R S L)
theorem j_ineg (pc' : Nat) {x : Int32} (hdg : decode y.2.1 pc = .ok (.ineg, 1)) (hp : pc + 1 = pc') (kk : J l g d y pc' ls (.int (-x) :: st) m Q) : J l g d y pc ls (.int x :: st) m Q := by
  intro p e s mi args below meth c H locs la C R S L
  subst hp
  exact lv_ineg C.1 C.2.1 hdg (kk p e s mi args below meth c H locs la C R S L)
theorem j_land (pc' : Nat) {x z : Int64} (hdg : decode y.2.1 pc = .ok (.land, 1)) (hp : pc + 1 = pc') (kk : J l g d y pc' ls (.long (x &&& z) :: st) m Q) : J l g d y pc ls (.long z :: .long x :: st) m Q := by
  intro p e s mi args below meth c H locs la C R S L
  subst hp
  exact lv_land C.1 C.2.1 hdg (kk p e s mi args below meth c H locs la C R S L)
theorem j_lor (pc' : Nat) {x z : Int64} (hdg : decode y.2.1 pc = .ok (.lor, 1)) (hp : pc + 1 = pc') (kk : J l g d y pc' ls (.long (x ||| z) :: st) m Q) : J l g d y pc ls (.long z :: .long x :: st) m Q := by
  intro p e s mi args below meth c H locs la C R S L
  subst hp
  exact lv_lor C.1 C.2.1 hdg (kk p e s mi args below meth c H locs la C R S L)
theorem j_iushr (pc' : Nat) {x z : Int32} (hdg : decode y.2.1 pc = .ok (.iushr, 1)) (hp : pc + 1 = pc') (kk : J l g d y pc' ls (.int ((x.toUInt32 >>> (z.toUInt32 &&& Int32.toUInt32 31)).toInt32) :: st) m Q) : J l g d y pc ls (.int z :: .int x :: st) m Q := by
  intro p e s mi args below meth c H locs la C R S L
  subst hp
  exact lv_iushr C.1 C.2.1 hdg rfl (kk p e s mi args below meth c H locs la C R S L)
theorem j_i2l (pc' : Nat) {x : Int32} (hdg : decode y.2.1 pc = .ok (.i2l, 1)) (hp : pc + 1 = pc') (kk : J l g d y pc' ls (.long (x.toInt64) :: st) m Q) : J l g d y pc ls (.int x :: st) m Q := by
  intro p e s mi args below meth c H locs la C R S L
  subst hp
  exact lv_i2l C.1 C.2.1 hdg rfl (kk p e s mi args below meth c H locs la C R S L)
theorem j_l2i (pc' : Nat) {x : Int64} (hdg : decode y.2.1 pc = .ok (.l2i, 1)) (hp : pc + 1 = pc') (kk : J l g d y pc' ls (.int (x.toInt32) :: st) m Q) : J l g d y pc ls (.long x :: st) m Q := by
  intro p e s mi args below meth c H locs la C R S L
  subst hp
  exact lv_l2i C.1 C.2.1 hdg rfl (kk p e s mi args below meth c H locs la C R S L)
theorem j_i2b (pc' : Nat) {x : Int32} (hdg : decode y.2.1 pc = .ok (.i2b, 1)) (hp : pc + 1 = pc') (kk : J l g d y pc' ls (.int (x.toInt8.toInt32) :: st) m Q) : J l g d y pc ls (.int x :: st) m Q := by
  intro p e s mi args below meth c H locs la C R S L
  subst hp
  exact lv_i2b C.1 C.2.1 hdg rfl (kk p e s mi args below meth c H locs la C R S L)
theorem j_i2s (pc' : Nat) {x : Int32} (hdg : decode y.2.1 pc = .ok (.i2s, 1)) (hp : pc + 1 = pc') (kk : J l g d y pc' ls (.int (x.toInt16.toInt32) :: st) m Q) : J l g d y pc ls (.int x :: st) m Q := by
  intro p e s mi args below meth c H locs la C R S L
  subst hp
  exact lv_i2s C.1 C.2.1 hdg rfl (kk p e s mi args below meth c H locs la C R S L)
theorem j_i2c (pc' : Nat) {x : Int32} (hdg : decode y.2.1 pc = .ok (.i2c, 1)) (hp : pc + 1 = pc') (kk : J l g d y pc' ls (.int ((x.toUInt32 % 65536).toInt32) :: st) m Q) : J l g d y pc ls (.int x :: st) m Q := by
  intro p e s mi args below meth c H locs la C R S L
  subst hp
  exact lv_i2c C.1 C.2.1 hdg rfl (kk p e s mi args below meth c H locs la C R S L)
theorem j_lshl (pc' : Nat) {x : Int64} {z : Int32} (hdg : decode y.2.1 pc = .ok (.lshl, 1)) (hp : pc + 1 = pc') (kk : J l g d y pc' ls (.long (x <<< (z.toInt64 &&& 63)) :: st) m Q) : J l g d y pc ls (.int z :: .long x :: st) m Q := by
  intro p e s mi args below meth c H locs la C R S L
  subst hp
  exact lv_lshl C.1 C.2.1 hdg rfl (kk p e s mi args below meth c H locs la C R S L)
theorem j_lshr (pc' : Nat) {x : Int64} {z : Int32} (hdg : decode y.2.1 pc = .ok (.lshr, 1)) (hp : pc + 1 = pc') (kk : J l g d y pc' ls (.long (x >>> (z.toInt64 &&& 63)) :: st) m Q) : J l g d y pc ls (.int z :: .long x :: st) m Q := by
  intro p e s mi args below meth c H locs la C R S L
  subst hp
  exact lv_lshr C.1 C.2.1 hdg rfl (kk p e s mi args below meth c H locs la C R S L)
theorem j_lushr (pc' : Nat) {x : Int64} {z : Int32} (hdg : decode y.2.1 pc = .ok (.lushr, 1)) (hp : pc + 1 = pc') (kk : J l g d y pc' ls (.long ((x.toUInt64 >>> (z.toInt64.toUInt64 &&& Int64.toUInt64 63)).toInt64) :: st) m Q) : J l g d y pc ls (.int z :: .long x :: st) m Q := by
  intro p e s mi args below meth c H locs la C R S L
  subst hp
  exact lv_lushr C.1 C.2.1 hdg rfl (kk p e s mi args below meth c H locs la C R S L)
theorem j_lcmp (pc' : Nat) {x z : Int64} (hdg : decode y.2.1 pc = .ok (.lcmp, 1)) (hp : pc + 1 = pc') (kk : J l g d y pc' ls (.int (lg_cmp x z) :: st) m Q) : J l g d y pc ls (.long z :: .long x :: st) m Q := by
  intro p e s mi args below meth c H locs la C R S L
  subst hp
  exact W.lcmp C.1 C.2.1 hdg (kk p e s mi args below meth c H locs la C R S L)
theorem j_dup (pc' : Nat) {v : Value} (hdg : decode y.2.1 pc = .ok (.dup, 1)) (hp : pc + 1 = pc') (hv : v.category = 1) (kk : J l g d y pc' ls (v :: v :: st) m Q) : J l g d y pc ls (v :: st) m Q := by
  intro p e s mi args below meth c H locs la C R S L
  subst hp
  exact lv_dup C.1 C.2.1 hdg hv (kk p e s mi args below meth c H locs la C R S L)
theorem j_dup2 (pc' : Nat) {v u : Value} (hdg : decode y.2.1 pc = .ok (.dup2, 1)) (hp : pc + 1 = pc') (hv : v.category = 1) (hu : u.category = 1) (kk : J l g d y pc' ls (v :: u :: v :: u :: st) m Q) : J l g d y pc ls (v :: u :: st) m Q := by
  intro p e s mi args below meth c H locs la C R S L
  subst hp
  exact lv_dup2_11 C.1 C.2.1 hdg hv hu (kk p e s mi args below meth c H locs la C R S L)
theorem j_pop (pc' : Nat) {v : Value} (hdg : decode y.2.1 pc = .ok (.pop, 1)) (hp : pc + 1 = pc') (hv : v.category = 1) (kk : J l g d y pc' ls (st) m Q) : J l g d y pc ls (v :: st) m Q := by
  intro p e s mi args below meth c H locs la C R S L
  subst hp
  exact lv_pop C.1 C.2.1 hdg hv (kk p e s mi args below meth c H locs la C R S L)
theorem j_ldc (pc' : Nat) {i : Nat} {v : Int32} (hdg : decode y.2.1 pc = .ok (.ldc i, 2)) (hp : pc + 2 = pc') (hc : Cond.constant y.1.cls i v ∈ lw_gd) (kk : J l g d y pc' ls (.int v :: st) m Q) : J l g d y pc ls st m Q := by
  intro p e s mi args below meth c H locs la C R S L
  subst hp
  exact lv_ldc C.1 C.2.1 C.2.2.2.2.1 (C.2.2.2.2.2.1 _ hc) hdg (kk p e s mi args below meth c H locs la C R S L)
theorem j_ldcw (pc' : Nat) {i : Nat} {v : Int32} (hdg : decode y.2.1 pc = .ok (.ldc_w i, 3)) (hp : pc + 3 = pc') (hc : Cond.constant y.1.cls i v ∈ lw_gd) (kk : J l g d y pc' ls (.int v :: st) m Q) : J l g d y pc ls st m Q := by
  intro p e s mi args below meth c H locs la C R S L
  subst hp
  exact lv_ldcw C.1 C.2.1 C.2.2.2.2.1 (C.2.2.2.2.2.1 _ hc) hdg (kk p e s mi args below meth c H locs la C R S L)
theorem j_ldc2 (pc' : Nat) {i : Nat} {v : Int64} (hdg : decode y.2.1 pc = .ok (.ldc2_w i, 3)) (hp : pc + 3 = pc') (hc : Cond.constantLong y.1.cls i v ∈ lw_gd) (kk : J l g d y pc' ls (.long v :: st) m Q) : J l g d y pc ls st m Q := by
  intro p e s mi args below meth c H locs la C R S L
  subst hp
  exact lv_ldc2 C.1 C.2.1 C.2.2.2.2.1 (C.2.2.2.2.2.1 _ hc) hdg (kk p e s mi args below meth c H locs la C R S L)
theorem j_if_eq (tgt : Nat) (pc' : Nat) {x : Int32} {off : Int} (hdg : decode y.2.1 pc = .ok (.ifCond .eq off, 3)) (ht : (pc : Int) + off = (tgt : Int)) (hp : pc + 3 = pc') (kt : x = 0 → J l g d y tgt ls st m Q) (kf : ¬ (x = 0) → J l g d y pc' ls st m Q) : J l g d y pc ls (.int x :: st) m Q := by
  intro p e s mi args below meth c H locs la C R S L
  subst hp
  exact lv_if_eq C.1 C.2.1 hdg ht (fun h => kt h p e s mi args below meth c H locs la C R S L) (fun h => kf h p e s mi args below meth c H locs la C R S L)
theorem j_cmp_eq (tgt : Nat) (pc' : Nat) {x z : Int32} {off : Int} (hdg : decode y.2.1 pc = .ok (.if_icmp .eq off, 3)) (ht : (pc : Int) + off = (tgt : Int)) (hp : pc + 3 = pc') (kt : x = z → J l g d y tgt ls st m Q) (kf : ¬ (x = z) → J l g d y pc' ls st m Q) : J l g d y pc ls (.int z :: .int x :: st) m Q := by
  intro p e s mi args below meth c H locs la C R S L
  subst hp
  exact lv_icmp_eq C.1 C.2.1 hdg ht (fun h => kt h p e s mi args below meth c H locs la C R S L) (fun h => kf h p e s mi args below meth c H locs la C R S L)
theorem j_if_ne (tgt : Nat) (pc' : Nat) {x : Int32} {off : Int} (hdg : decode y.2.1 pc = .ok (.ifCond .ne off, 3)) (ht : (pc : Int) + off = (tgt : Int)) (hp : pc + 3 = pc') (kt : x ≠ 0 → J l g d y tgt ls st m Q) (kf : x = 0 → J l g d y pc' ls st m Q) : J l g d y pc ls (.int x :: st) m Q := by
  intro p e s mi args below meth c H locs la C R S L
  subst hp
  exact lv_if_ne C.1 C.2.1 hdg ht (fun h => kt h p e s mi args below meth c H locs la C R S L) (fun h => kf h p e s mi args below meth c H locs la C R S L)
theorem j_cmp_ne (tgt : Nat) (pc' : Nat) {x z : Int32} {off : Int} (hdg : decode y.2.1 pc = .ok (.if_icmp .ne off, 3)) (ht : (pc : Int) + off = (tgt : Int)) (hp : pc + 3 = pc') (kt : x ≠ z → J l g d y tgt ls st m Q) (kf : x = z → J l g d y pc' ls st m Q) : J l g d y pc ls (.int z :: .int x :: st) m Q := by
  intro p e s mi args below meth c H locs la C R S L
  subst hp
  exact lv_icmp_ne C.1 C.2.1 hdg ht (fun h => kt h p e s mi args below meth c H locs la C R S L) (fun h => kf h p e s mi args below meth c H locs la C R S L)
theorem j_if_lt (tgt : Nat) (pc' : Nat) {x : Int32} {off : Int} (hdg : decode y.2.1 pc = .ok (.ifCond .lt off, 3)) (ht : (pc : Int) + off = (tgt : Int)) (hp : pc + 3 = pc') (kt : x < 0 → J l g d y tgt ls st m Q) (kf : ¬ (x < 0) → J l g d y pc' ls st m Q) : J l g d y pc ls (.int x :: st) m Q := by
  intro p e s mi args below meth c H locs la C R S L
  subst hp
  exact lv_if_lt C.1 C.2.1 hdg ht (fun h => kt h p e s mi args below meth c H locs la C R S L) (fun h => kf h p e s mi args below meth c H locs la C R S L)
theorem j_cmp_lt (tgt : Nat) (pc' : Nat) {x z : Int32} {off : Int} (hdg : decode y.2.1 pc = .ok (.if_icmp .lt off, 3)) (ht : (pc : Int) + off = (tgt : Int)) (hp : pc + 3 = pc') (kt : x < z → J l g d y tgt ls st m Q) (kf : ¬ (x < z) → J l g d y pc' ls st m Q) : J l g d y pc ls (.int z :: .int x :: st) m Q := by
  intro p e s mi args below meth c H locs la C R S L
  subst hp
  exact lv_icmp_lt C.1 C.2.1 hdg ht (fun h => kt h p e s mi args below meth c H locs la C R S L) (fun h => kf h p e s mi args below meth c H locs la C R S L)
theorem j_if_ge (tgt : Nat) (pc' : Nat) {x : Int32} {off : Int} (hdg : decode y.2.1 pc = .ok (.ifCond .ge off, 3)) (ht : (pc : Int) + off = (tgt : Int)) (hp : pc + 3 = pc') (kt : 0 ≤ x → J l g d y tgt ls st m Q) (kf : ¬ (0 ≤ x) → J l g d y pc' ls st m Q) : J l g d y pc ls (.int x :: st) m Q := by
  intro p e s mi args below meth c H locs la C R S L
  subst hp
  exact lv_if_ge C.1 C.2.1 hdg ht (fun h => kt h p e s mi args below meth c H locs la C R S L) (fun h => kf h p e s mi args below meth c H locs la C R S L)
theorem j_cmp_ge (tgt : Nat) (pc' : Nat) {x z : Int32} {off : Int} (hdg : decode y.2.1 pc = .ok (.if_icmp .ge off, 3)) (ht : (pc : Int) + off = (tgt : Int)) (hp : pc + 3 = pc') (kt : z ≤ x → J l g d y tgt ls st m Q) (kf : ¬ (z ≤ x) → J l g d y pc' ls st m Q) : J l g d y pc ls (.int z :: .int x :: st) m Q := by
  intro p e s mi args below meth c H locs la C R S L
  subst hp
  exact lv_icmp_ge C.1 C.2.1 hdg ht (fun h => kt h p e s mi args below meth c H locs la C R S L) (fun h => kf h p e s mi args below meth c H locs la C R S L)
theorem j_if_gt (tgt : Nat) (pc' : Nat) {x : Int32} {off : Int} (hdg : decode y.2.1 pc = .ok (.ifCond .gt off, 3)) (ht : (pc : Int) + off = (tgt : Int)) (hp : pc + 3 = pc') (kt : 0 < x → J l g d y tgt ls st m Q) (kf : ¬ (0 < x) → J l g d y pc' ls st m Q) : J l g d y pc ls (.int x :: st) m Q := by
  intro p e s mi args below meth c H locs la C R S L
  subst hp
  exact lv_if_gt C.1 C.2.1 hdg ht (fun h => kt h p e s mi args below meth c H locs la C R S L) (fun h => kf h p e s mi args below meth c H locs la C R S L)
theorem j_cmp_gt (tgt : Nat) (pc' : Nat) {x z : Int32} {off : Int} (hdg : decode y.2.1 pc = .ok (.if_icmp .gt off, 3)) (ht : (pc : Int) + off = (tgt : Int)) (hp : pc + 3 = pc') (kt : z < x → J l g d y tgt ls st m Q) (kf : ¬ (z < x) → J l g d y pc' ls st m Q) : J l g d y pc ls (.int z :: .int x :: st) m Q := by
  intro p e s mi args below meth c H locs la C R S L
  subst hp
  exact lv_icmp_gt C.1 C.2.1 hdg ht (fun h => kt h p e s mi args below meth c H locs la C R S L) (fun h => kf h p e s mi args below meth c H locs la C R S L)
theorem j_if_le (tgt : Nat) (pc' : Nat) {x : Int32} {off : Int} (hdg : decode y.2.1 pc = .ok (.ifCond .le off, 3)) (ht : (pc : Int) + off = (tgt : Int)) (hp : pc + 3 = pc') (kt : x ≤ 0 → J l g d y tgt ls st m Q) (kf : ¬ (x ≤ 0) → J l g d y pc' ls st m Q) : J l g d y pc ls (.int x :: st) m Q := by
  intro p e s mi args below meth c H locs la C R S L
  subst hp
  exact lv_if_le C.1 C.2.1 hdg ht (fun h => kt h p e s mi args below meth c H locs la C R S L) (fun h => kf h p e s mi args below meth c H locs la C R S L)
theorem j_cmp_le (tgt : Nat) (pc' : Nat) {x z : Int32} {off : Int} (hdg : decode y.2.1 pc = .ok (.if_icmp .le off, 3)) (ht : (pc : Int) + off = (tgt : Int)) (hp : pc + 3 = pc') (kt : x ≤ z → J l g d y tgt ls st m Q) (kf : ¬ (x ≤ z) → J l g d y pc' ls st m Q) : J l g d y pc ls (.int z :: .int x :: st) m Q := by
  intro p e s mi args below meth c H locs la C R S L
  subst hp
  exact lv_icmp_le C.1 C.2.1 hdg ht (fun h => kt h p e s mi args below meth c H locs la C R S L) (fun h => kf h p e s mi args below meth c H locs la C R S L)
theorem j_goto (tgt : Nat) {off : Int} (hdg : decode y.2.1 pc = .ok (.goto off, 3)) (ht : (pc : Int) + off = (tgt : Int)) (kk : J l g d y tgt ls st m Q) : J l g d y pc ls st m Q := by
  intro p e s mi args below meth c H locs la C R S L
  exact lv_goto C.1 C.2.1 hdg ht (kk p e s mi args below meth c H locs la C R S L)
theorem j_lookup (tgt : Nat) {dflt : Int} {ps : Array (Int × Int)} {len : Nat} {x : Int32} {off : Int} (hdg : decode y.2.1 pc = .ok (.lookupswitch dflt ps, len)) (hs : (ps.toList.zip (ps.toList.drop 1)).all (fun (a, next) => a.1 < next.1) = true) (ho : Op.lookupswitch.offset ps.toList dflt x.toInt = off) (ht : (pc : Int) + off = (tgt : Int)) (kk : J l g d y tgt ls st m Q) : J l g d y pc ls (.int x :: st) m Q := by
  intro p e s mi args below meth c H locs la C R S L
  exact lv_lookup C.1 C.2.1 hdg hs ho ht (kk p e s mi args below meth c H locs la C R S L)
theorem j_tabOut (tgt : Nat) {dflt lo hi : Int} {offs : Array Int} {len : Nat} {x : Int32} (hdg : decode y.2.1 pc = .ok (.tableswitch dflt lo hi offs, len)) (h : x.toInt < lo ∨ hi < x.toInt) (ht : (pc : Int) + dflt = (tgt : Int)) (kk : J l g d y tgt ls st m Q) : J l g d y pc ls (.int x :: st) m Q := by
  intro p e s mi args below meth c H locs la C R S L
  exact lv_tableOut C.1 C.2.1 hdg h ht (kk p e s mi args below meth c H locs la C R S L)
theorem j_tabIn (tgt : Nat) {dflt lo hi : Int} {offs : Array Int} {len : Nat} {x : Int32} {off : Int} (hdg : decode y.2.1 pc = .ok (.tableswitch dflt lo hi offs, len)) (h1 : ¬ x.toInt < lo) (h2 : ¬ hi < x.toInt) (ho : offs[(x.toInt - lo).toNat]? = some off) (ht : (pc : Int) + off = (tgt : Int)) (kk : J l g d y tgt ls st m Q) : J l g d y pc ls (.int x :: st) m Q := by
  intro p e s mi args below meth c H locs la C R S L
  exact lv_tableIn C.1 C.2.1 hdg h1 h2 ho ht (kk p e s mi args below meth c H locs la C R S L)
theorem jg_iload_n (pc' : Nat) {k : Fin 4} (i : Nat) {x : Int32} (hi : (k : Nat) = i) (hdg : decode y.2.1 pc = .ok (.iload_n k, 1)) (hp : pc + 1 = pc') (hl : ls[i]? = some (some (.int x))) (kk : J l g d y pc' ls (.int x :: st) m Q) : J l g d y pc ls st m Q := by
  intro p e s mi args below meth c H locs la C R S L
  subst hp
  exact lv_iload_n C.1 C.2.1 hdg hi (lv_rd L hl) (kk p e s mi args below meth c H locs la C R S L)
theorem jg_iload (pc' : Nat) (i : Nat) {x : Int32} (hdg : decode y.2.1 pc = .ok (.iload i, 2)) (hp : pc + 2 = pc') (hl : ls[i]? = some (some (.int x))) (kk : J l g d y pc' ls (.int x :: st) m Q) : J l g d y pc ls st m Q := by
  intro p e s mi args below meth c H locs la C R S L
  subst hp
  exact lv_iload C.1 C.2.1 hdg (lv_rd L hl) (kk p e s mi args below meth c H locs la C R S L)
theorem jg_lload_n (pc' : Nat) {k : Fin 4} (i : Nat) {x : Int64} (hi : (k : Nat) = i) (hdg : decode y.2.1 pc = .ok (.lload_n k, 1)) (hp : pc + 1 = pc') (hl : ls[i]? = some (some (.long x))) (kk : J l g d y pc' ls (.long x :: st) m Q) : J l g d y pc ls st m Q := by
  intro p e s mi args below meth c H locs la C R S L
  subst hp
  exact lv_lload_n C.1 C.2.1 hdg hi (lv_rd L hl) (kk p e s mi args below meth c H locs la C R S L)
theorem jg_lload (pc' : Nat) (i : Nat) {x : Int64} (hdg : decode y.2.1 pc = .ok (.lload i, 2)) (hp : pc + 2 = pc') (hl : ls[i]? = some (some (.long x))) (kk : J l g d y pc' ls (.long x :: st) m Q) : J l g d y pc ls st m Q := by
  intro p e s mi args below meth c H locs la C R S L
  subst hp
  exact lv_lload C.1 C.2.1 hdg (lv_rd L hl) (kk p e s mi args below meth c H locs la C R S L)
theorem jg_aload_n (pc' : Nat) {k : Fin 4} (i : Nat) {x : Nat} (hi : (k : Nat) = i) (hdg : decode y.2.1 pc = .ok (.aload_n k, 1)) (hp : pc + 1 = pc') (hl : ls[i]? = some (some (rf g x))) (kk : J l g d y pc' ls (rf g x :: st) m Q) : J l g d y pc ls st m Q := by
  intro p e s mi args below meth c H locs la C R S L
  subst hp
  exact lv_aload_n C.1 C.2.1 hdg hi (lv_rd L hl) (kk p e s mi args below meth c H locs la C R S L)
theorem jg_aload (pc' : Nat) (i : Nat) {x : Nat} (hdg : decode y.2.1 pc = .ok (.aload i, 2)) (hp : pc + 2 = pc') (hl : ls[i]? = some (some (rf g x))) (kk : J l g d y pc' ls (rf g x :: st) m Q) : J l g d y pc ls st m Q := by
  intro p e s mi args below meth c H locs la C R S L
  subst hp
  exact lv_aload C.1 C.2.1 hdg (lv_rd L hl) (kk p e s mi args below meth c H locs la C R S L)
theorem jg_istore_n (pc' : Nat) {k : Fin 4} (i : Nat) {x : Int32} (hi : (k : Nat) = i) (hdg : decode y.2.1 pc = .ok (.istore_n k, 1)) (hp : pc + 1 = pc') (hn : i < y.2.2.1) (hc : ∀ j o, j + 1 = i → ls[j]? = some o → okc o = true) (kk : J l g d y pc' (ls.set i (some (.int x))) st m Q) : J l g d y pc ls (.int x :: st) m Q := by
  intro p e s mi args below meth c H locs la C R S L
  subst hp
  exact lv_istore_n C.1 C.2.1 hdg hi L hn rfl (fun la' hl => kk p e s mi args below meth c H locs la' C R S (lv_wr hl hc))
theorem jg_istore (pc' : Nat) (i : Nat) {x : Int32} (hdg : decode y.2.1 pc = .ok (.istore i, 2)) (hp : pc + 2 = pc') (hn : i < y.2.2.1) (hc : ∀ j o, j + 1 = i → ls[j]? = some o → okc o = true) (kk : J l g d y pc' (ls.set i (some (.int x))) st m Q) : J l g d y pc ls (.int x :: st) m Q := by
  intro p e s mi args below meth c H locs la C R S L
  subst hp
  exact lv_istore C.1 C.2.1 hdg L hn rfl (fun la' hl => kk p e s mi args below meth c H locs la' C R S (lv_wr hl hc))
theorem jg_astore_n (pc' : Nat) {k : Fin 4} (i : Nat) {x : Nat} (hi : (k : Nat) = i) (hdg : decode y.2.1 pc = .ok (.astore_n k, 1)) (hp : pc + 1 = pc') (hn : i < y.2.2.1) (hc : ∀ j o, j + 1 = i → ls[j]? = some o → okc o = true) (kk : J l g d y pc' (ls.set i (some (rf g x))) st m Q) : J l g d y pc ls (rf g x :: st) m Q := by
  intro p e s mi args below meth c H locs la C R S L
  subst hp
  exact lv_astore_n C.1 C.2.1 hdg hi L hn rfl (fun la' hl => kk p e s mi args below meth c H locs la' C R S (lv_wr hl hc))
theorem jg_astore (pc' : Nat) (i : Nat) {x : Nat} (hdg : decode y.2.1 pc = .ok (.astore i, 2)) (hp : pc + 2 = pc') (hn : i < y.2.2.1) (hc : ∀ j o, j + 1 = i → ls[j]? = some o → okc o = true) (kk : J l g d y pc' (ls.set i (some (rf g x))) st m Q) : J l g d y pc ls (rf g x :: st) m Q := by
  intro p e s mi args below meth c H locs la C R S L
  subst hp
  exact lv_astore C.1 C.2.1 hdg L hn rfl (fun la' hl => kk p e s mi args below meth c H locs la' C R S (lv_wr hl hc))
theorem jg_iinc (pc' : Nat) (i : Nat) {n : Int} {x v : Int32} (hdg : decode y.2.1 pc = .ok (.iinc i n, 3)) (hp : pc + 3 = pc') (hl : ls[i]? = some (some (.int x))) (hv : x + Int32.ofInt n = v) (hn : i < y.2.2.1) (hc : ∀ j o, j + 1 = i → ls[j]? = some o → okc o = true) (kk : J l g d y pc' (ls.set i (some (.int v))) st m Q) : J l g d y pc ls st m Q := by
  intro p e s mi args below meth c H locs la C R S L
  subst hp
  have hm := lvl_mem ls 0 i _ hl
  rw [Nat.zero_add] at hm
  obtain ⟨k, hk⟩ := List.getElem?_of_mem hm
  exact lv_iinc C.1 C.2.1 hdg L hk hv hn rfl (fun la' hl => kk p e s mi args below meth c H locs la' C R S (lv_wr hl hc))
theorem j_iload0 (pc' : Nat) {r : List (Option Value)} {x : Int32} (hdg : decode y.2.1 pc = .ok (.iload_n 0, 1)) (hp : pc + 1 = pc') (kk : J l g d y pc' (some (.int x) :: r) (.int x :: st) m Q) : J l g d y pc (some (.int x) :: r) st m Q := jg_iload_n pc' 0 rfl hdg hp rfl kk
theorem j_aload0 (pc' : Nat) {r : List (Option Value)} {x : Nat} (hdg : decode y.2.1 pc = .ok (.aload_n 0, 1)) (hp : pc + 1 = pc') (kk : J l g d y pc' (some (rf g x) :: r) (rf g x :: st) m Q) : J l g d y pc (some (rf g x) :: r) st m Q := jg_aload_n pc' 0 rfl hdg hp rfl kk
theorem j_lload0 (pc' : Nat) {r : List (Option Value)} {x : Int64} (hdg : decode y.2.1 pc = .ok (.lload_n 0, 1)) (hp : pc + 1 = pc') (kk : J l g d y pc' (some (.long x) :: r) (.long x :: st) m Q) : J l g d y pc (some (.long x) :: r) st m Q := jg_lload_n pc' 0 rfl hdg hp rfl kk
theorem j_istore0 (pc' : Nat) {o : Option Value} {r : List (Option Value)} {x : Int32} (hdg : decode y.2.1 pc = .ok (.istore_n 0, 1)) (hp : pc + 1 = pc') (hn : Nat.blt 0 y.2.2.1 = true) (kk : J l g d y pc' (some (.int x) :: r) st m Q) : J l g d y pc (o :: r) (.int x :: st) m Q := jg_istore_n pc' 0 rfl hdg hp (Nat.le_of_ble_eq_true hn) (fun j o h => absurd h (by omega)) kk
theorem j_astore0 (pc' : Nat) {o : Option Value} {r : List (Option Value)} {x : Nat} (hdg : decode y.2.1 pc = .ok (.astore_n 0, 1)) (hp : pc + 1 = pc') (hn : Nat.blt 0 y.2.2.1 = true) (kk : J l g d y pc' (some (rf g x) :: r) st m Q) : J l g d y pc (o :: r) (rf g x :: st) m Q := jg_astore_n pc' 0 rfl hdg hp (Nat.le_of_ble_eq_true hn) (fun j o h => absurd h (by omega)) kk
theorem j_iinc0 (pc' : Nat) {r : List (Option Value)} {n : Int} {x : Int32} (v : Int32) (hdg : decode y.2.1 pc = .ok (.iinc 0 n, 3)) (hp : pc + 3 = pc') (hn : Nat.blt 0 y.2.2.1 = true) (hv : Int32.ofInt n = v) (kk : J l g d y pc' (some (.int (x + v)) :: r) st m Q) : J l g d y pc (some (.int x) :: r) st m Q := jg_iinc pc' 0 hdg hp rfl (by rw [hv]) (Nat.le_of_ble_eq_true hn) (fun j o h => absurd h (by omega)) kk
theorem j_iload1 (pc' : Nat) {x0 : Option Value} {r : List (Option Value)} {x : Int32} (hdg : decode y.2.1 pc = .ok (.iload_n 1, 1)) (hp : pc + 1 = pc') (kk : J l g d y pc' (x0 :: some (.int x) :: r) (.int x :: st) m Q) : J l g d y pc (x0 :: some (.int x) :: r) st m Q := jg_iload_n pc' 1 rfl hdg hp rfl kk
theorem j_aload1 (pc' : Nat) {x0 : Option Value} {r : List (Option Value)} {x : Nat} (hdg : decode y.2.1 pc = .ok (.aload_n 1, 1)) (hp : pc + 1 = pc') (kk : J l g d y pc' (x0 :: some (rf g x) :: r) (rf g x :: st) m Q) : J l g d y pc (x0 :: some (rf g x) :: r) st m Q := jg_aload_n pc' 1 rfl hdg hp rfl kk
theorem j_lload1 (pc' : Nat) {x0 : Option Value} {r : List (Option Value)} {x : Int64} (hdg : decode y.2.1 pc = .ok (.lload_n 1, 1)) (hp : pc + 1 = pc') (kk : J l g d y pc' (x0 :: some (.long x) :: r) (.long x :: st) m Q) : J l g d y pc (x0 :: some (.long x) :: r) st m Q := jg_lload_n pc' 1 rfl hdg hp rfl kk
theorem j_istore1 (pc' : Nat) {x0 : Option Value} {o : Option Value} {r : List (Option Value)} {x : Int32} (hdg : decode y.2.1 pc = .ok (.istore_n 1, 1)) (hp : pc + 1 = pc') (hn : Nat.blt 1 y.2.2.1 = true) (hc : okc x0 = true) (kk : J l g d y pc' (x0 :: some (.int x) :: r) st m Q) : J l g d y pc (x0 :: o :: r) (.int x :: st) m Q := jg_istore_n pc' 1 rfl hdg hp (Nat.le_of_ble_eq_true hn) (okc_at rfl hc) kk
theorem j_astore1 (pc' : Nat) {x0 : Option Value} {o : Option Value} {r : List (Option Value)} {x : Nat} (hdg : decode y.2.1 pc = .ok (.astore_n 1, 1)) (hp : pc + 1 = pc') (hn : Nat.blt 1 y.2.2.1 = true) (hc : okc x0 = true) (kk : J l g d y pc' (x0 :: some (rf g x) :: r) st m Q) : J l g d y pc (x0 :: o :: r) (rf g x :: st) m Q := jg_astore_n pc' 1 rfl hdg hp (Nat.le_of_ble_eq_true hn) (okc_at rfl hc) kk
theorem j_iinc1 (pc' : Nat) {x0 : Option Value} {r : List (Option Value)} {n : Int} {x : Int32} (v : Int32) (hdg : decode y.2.1 pc = .ok (.iinc 1 n, 3)) (hp : pc + 3 = pc') (hn : Nat.blt 1 y.2.2.1 = true) (hc : okc x0 = true) (hv : Int32.ofInt n = v) (kk : J l g d y pc' (x0 :: some (.int (x + v)) :: r) st m Q) : J l g d y pc (x0 :: some (.int x) :: r) st m Q := jg_iinc pc' 1 hdg hp rfl (by rw [hv]) (Nat.le_of_ble_eq_true hn) (okc_at rfl hc) kk
theorem j_iload2 (pc' : Nat) {x0 x1 : Option Value} {r : List (Option Value)} {x : Int32} (hdg : decode y.2.1 pc = .ok (.iload_n 2, 1)) (hp : pc + 1 = pc') (kk : J l g d y pc' (x0 :: x1 :: some (.int x) :: r) (.int x :: st) m Q) : J l g d y pc (x0 :: x1 :: some (.int x) :: r) st m Q := jg_iload_n pc' 2 rfl hdg hp rfl kk
theorem j_aload2 (pc' : Nat) {x0 x1 : Option Value} {r : List (Option Value)} {x : Nat} (hdg : decode y.2.1 pc = .ok (.aload_n 2, 1)) (hp : pc + 1 = pc') (kk : J l g d y pc' (x0 :: x1 :: some (rf g x) :: r) (rf g x :: st) m Q) : J l g d y pc (x0 :: x1 :: some (rf g x) :: r) st m Q := jg_aload_n pc' 2 rfl hdg hp rfl kk
theorem j_lload2 (pc' : Nat) {x0 x1 : Option Value} {r : List (Option Value)} {x : Int64} (hdg : decode y.2.1 pc = .ok (.lload_n 2, 1)) (hp : pc + 1 = pc') (kk : J l g d y pc' (x0 :: x1 :: some (.long x) :: r) (.long x :: st) m Q) : J l g d y pc (x0 :: x1 :: some (.long x) :: r) st m Q := jg_lload_n pc' 2 rfl hdg hp rfl kk
theorem j_istore2 (pc' : Nat) {x0 x1 : Option Value} {o : Option Value} {r : List (Option Value)} {x : Int32} (hdg : decode y.2.1 pc = .ok (.istore_n 2, 1)) (hp : pc + 1 = pc') (hn : Nat.blt 2 y.2.2.1 = true) (hc : okc x1 = true) (kk : J l g d y pc' (x0 :: x1 :: some (.int x) :: r) st m Q) : J l g d y pc (x0 :: x1 :: o :: r) (.int x :: st) m Q := jg_istore_n pc' 2 rfl hdg hp (Nat.le_of_ble_eq_true hn) (okc_at rfl hc) kk
theorem j_astore2 (pc' : Nat) {x0 x1 : Option Value} {o : Option Value} {r : List (Option Value)} {x : Nat} (hdg : decode y.2.1 pc = .ok (.astore_n 2, 1)) (hp : pc + 1 = pc') (hn : Nat.blt 2 y.2.2.1 = true) (hc : okc x1 = true) (kk : J l g d y pc' (x0 :: x1 :: some (rf g x) :: r) st m Q) : J l g d y pc (x0 :: x1 :: o :: r) (rf g x :: st) m Q := jg_astore_n pc' 2 rfl hdg hp (Nat.le_of_ble_eq_true hn) (okc_at rfl hc) kk
theorem j_iinc2 (pc' : Nat) {x0 x1 : Option Value} {r : List (Option Value)} {n : Int} {x : Int32} (v : Int32) (hdg : decode y.2.1 pc = .ok (.iinc 2 n, 3)) (hp : pc + 3 = pc') (hn : Nat.blt 2 y.2.2.1 = true) (hc : okc x1 = true) (hv : Int32.ofInt n = v) (kk : J l g d y pc' (x0 :: x1 :: some (.int (x + v)) :: r) st m Q) : J l g d y pc (x0 :: x1 :: some (.int x) :: r) st m Q := jg_iinc pc' 2 hdg hp rfl (by rw [hv]) (Nat.le_of_ble_eq_true hn) (okc_at rfl hc) kk
theorem j_iload3 (pc' : Nat) {x0 x1 x2 : Option Value} {r : List (Option Value)} {x : Int32} (hdg : decode y.2.1 pc = .ok (.iload_n 3, 1)) (hp : pc + 1 = pc') (kk : J l g d y pc' (x0 :: x1 :: x2 :: some (.int x) :: r) (.int x :: st) m Q) : J l g d y pc (x0 :: x1 :: x2 :: some (.int x) :: r) st m Q := jg_iload_n pc' 3 rfl hdg hp rfl kk
theorem j_aload3 (pc' : Nat) {x0 x1 x2 : Option Value} {r : List (Option Value)} {x : Nat} (hdg : decode y.2.1 pc = .ok (.aload_n 3, 1)) (hp : pc + 1 = pc') (kk : J l g d y pc' (x0 :: x1 :: x2 :: some (rf g x) :: r) (rf g x :: st) m Q) : J l g d y pc (x0 :: x1 :: x2 :: some (rf g x) :: r) st m Q := jg_aload_n pc' 3 rfl hdg hp rfl kk
theorem j_lload3 (pc' : Nat) {x0 x1 x2 : Option Value} {r : List (Option Value)} {x : Int64} (hdg : decode y.2.1 pc = .ok (.lload_n 3, 1)) (hp : pc + 1 = pc') (kk : J l g d y pc' (x0 :: x1 :: x2 :: some (.long x) :: r) (.long x :: st) m Q) : J l g d y pc (x0 :: x1 :: x2 :: some (.long x) :: r) st m Q := jg_lload_n pc' 3 rfl hdg hp rfl kk
theorem j_istore3 (pc' : Nat) {x0 x1 x2 : Option Value} {o : Option Value} {r : List (Option Value)} {x : Int32} (hdg : decode y.2.1 pc = .ok (.istore_n 3, 1)) (hp : pc + 1 = pc') (hn : Nat.blt 3 y.2.2.1 = true) (hc : okc x2 = true) (kk : J l g d y pc' (x0 :: x1 :: x2 :: some (.int x) :: r) st m Q) : J l g d y pc (x0 :: x1 :: x2 :: o :: r) (.int x :: st) m Q := jg_istore_n pc' 3 rfl hdg hp (Nat.le_of_ble_eq_true hn) (okc_at rfl hc) kk
theorem j_astore3 (pc' : Nat) {x0 x1 x2 : Option Value} {o : Option Value} {r : List (Option Value)} {x : Nat} (hdg : decode y.2.1 pc = .ok (.astore_n 3, 1)) (hp : pc + 1 = pc') (hn : Nat.blt 3 y.2.2.1 = true) (hc : okc x2 = true) (kk : J l g d y pc' (x0 :: x1 :: x2 :: some (rf g x) :: r) st m Q) : J l g d y pc (x0 :: x1 :: x2 :: o :: r) (rf g x :: st) m Q := jg_astore_n pc' 3 rfl hdg hp (Nat.le_of_ble_eq_true hn) (okc_at rfl hc) kk
theorem j_iinc3 (pc' : Nat) {x0 x1 x2 : Option Value} {r : List (Option Value)} {n : Int} {x : Int32} (v : Int32) (hdg : decode y.2.1 pc = .ok (.iinc 3 n, 3)) (hp : pc + 3 = pc') (hn : Nat.blt 3 y.2.2.1 = true) (hc : okc x2 = true) (hv : Int32.ofInt n = v) (kk : J l g d y pc' (x0 :: x1 :: x2 :: some (.int (x + v)) :: r) st m Q) : J l g d y pc (x0 :: x1 :: x2 :: some (.int x) :: r) st m Q := jg_iinc pc' 3 hdg hp rfl (by rw [hv]) (Nat.le_of_ble_eq_true hn) (okc_at rfl hc) kk
theorem j_iload4 (pc' : Nat) {x0 x1 x2 x3 : Option Value} {r : List (Option Value)} {x : Int32} (hdg : decode y.2.1 pc = .ok (.iload 4, 2)) (hp : pc + 2 = pc') (kk : J l g d y pc' (x0 :: x1 :: x2 :: x3 :: some (.int x) :: r) (.int x :: st) m Q) : J l g d y pc (x0 :: x1 :: x2 :: x3 :: some (.int x) :: r) st m Q := jg_iload pc' 4 hdg hp rfl kk
theorem j_aload4 (pc' : Nat) {x0 x1 x2 x3 : Option Value} {r : List (Option Value)} {x : Nat} (hdg : decode y.2.1 pc = .ok (.aload 4, 2)) (hp : pc + 2 = pc') (kk : J l g d y pc' (x0 :: x1 :: x2 :: x3 :: some (rf g x) :: r) (rf g x :: st) m Q) : J l g d y pc (x0 :: x1 :: x2 :: x3 :: some (rf g x) :: r) st m Q := jg_aload pc' 4 hdg hp rfl kk
theorem j_lload4 (pc' : Nat) {x0 x1 x2 x3 : Option Value} {r : List (Option Value)} {x : Int64} (hdg : decode y.2.1 pc = .ok (.lload 4, 2)) (hp : pc + 2 = pc') (kk : J l g d y pc' (x0 :: x1 :: x2 :: x3 :: some (.long x) :: r) (.long x :: st) m Q) : J l g d y pc (x0 :: x1 :: x2 :: x3 :: some (.long x) :: r) st m Q := jg_lload pc' 4 hdg hp rfl kk
theorem j_istore4 (pc' : Nat) {x0 x1 x2 x3 : Option Value} {o : Option Value} {r : List (Option Value)} {x : Int32} (hdg : decode y.2.1 pc = .ok (.istore 4, 2)) (hp : pc + 2 = pc') (hn : Nat.blt 4 y.2.2.1 = true) (hc : okc x3 = true) (kk : J l g d y pc' (x0 :: x1 :: x2 :: x3 :: some (.int x) :: r) st m Q) : J l g d y pc (x0 :: x1 :: x2 :: x3 :: o :: r) (.int x :: st) m Q := jg_istore pc' 4 hdg hp (Nat.le_of_ble_eq_true hn) (okc_at rfl hc) kk
theorem j_astore4 (pc' : Nat) {x0 x1 x2 x3 : Option Value} {o : Option Value} {r : List (Option Value)} {x : Nat} (hdg : decode y.2.1 pc = .ok (.astore 4, 2)) (hp : pc + 2 = pc') (hn : Nat.blt 4 y.2.2.1 = true) (hc : okc x3 = true) (kk : J l g d y pc' (x0 :: x1 :: x2 :: x3 :: some (rf g x) :: r) st m Q) : J l g d y pc (x0 :: x1 :: x2 :: x3 :: o :: r) (rf g x :: st) m Q := jg_astore pc' 4 hdg hp (Nat.le_of_ble_eq_true hn) (okc_at rfl hc) kk
theorem j_iinc4 (pc' : Nat) {x0 x1 x2 x3 : Option Value} {r : List (Option Value)} {n : Int} {x : Int32} (v : Int32) (hdg : decode y.2.1 pc = .ok (.iinc 4 n, 3)) (hp : pc + 3 = pc') (hn : Nat.blt 4 y.2.2.1 = true) (hc : okc x3 = true) (hv : Int32.ofInt n = v) (kk : J l g d y pc' (x0 :: x1 :: x2 :: x3 :: some (.int (x + v)) :: r) st m Q) : J l g d y pc (x0 :: x1 :: x2 :: x3 :: some (.int x) :: r) st m Q := jg_iinc pc' 4 hdg hp rfl (by rw [hv]) (Nat.le_of_ble_eq_true hn) (okc_at rfl hc) kk
theorem j_iload5 (pc' : Nat) {x0 x1 x2 x3 x4 : Option Value} {r : List (Option Value)} {x : Int32} (hdg : decode y.2.1 pc = .ok (.iload 5, 2)) (hp : pc + 2 = pc') (kk : J l g d y pc' (x0 :: x1 :: x2 :: x3 :: x4 :: some (.int x) :: r) (.int x :: st) m Q) : J l g d y pc (x0 :: x1 :: x2 :: x3 :: x4 :: some (.int x) :: r) st m Q := jg_iload pc' 5 hdg hp rfl kk
theorem j_aload5 (pc' : Nat) {x0 x1 x2 x3 x4 : Option Value} {r : List (Option Value)} {x : Nat} (hdg : decode y.2.1 pc = .ok (.aload 5, 2)) (hp : pc + 2 = pc') (kk : J l g d y pc' (x0 :: x1 :: x2 :: x3 :: x4 :: some (rf g x) :: r) (rf g x :: st) m Q) : J l g d y pc (x0 :: x1 :: x2 :: x3 :: x4 :: some (rf g x) :: r) st m Q := jg_aload pc' 5 hdg hp rfl kk
theorem j_lload5 (pc' : Nat) {x0 x1 x2 x3 x4 : Option Value} {r : List (Option Value)} {x : Int64} (hdg : decode y.2.1 pc = .ok (.lload 5, 2)) (hp : pc + 2 = pc') (kk : J l g d y pc' (x0 :: x1 :: x2 :: x3 :: x4 :: some (.long x) :: r) (.long x :: st) m Q) : J l g d y pc (x0 :: x1 :: x2 :: x3 :: x4 :: some (.long x) :: r) st m Q := jg_lload pc' 5 hdg hp rfl kk
theorem j_istore5 (pc' : Nat) {x0 x1 x2 x3 x4 : Option Value} {o : Option Value} {r : List (Option Value)} {x : Int32} (hdg : decode y.2.1 pc = .ok (.istore 5, 2)) (hp : pc + 2 = pc') (hn : Nat.blt 5 y.2.2.1 = true) (hc : okc x4 = true) (kk : J l g d y pc' (x0 :: x1 :: x2 :: x3 :: x4 :: some (.int x) :: r) st m Q) : J l g d y pc (x0 :: x1 :: x2 :: x3 :: x4 :: o :: r) (.int x :: st) m Q := jg_istore pc' 5 hdg hp (Nat.le_of_ble_eq_true hn) (okc_at rfl hc) kk
theorem j_astore5 (pc' : Nat) {x0 x1 x2 x3 x4 : Option Value} {o : Option Value} {r : List (Option Value)} {x : Nat} (hdg : decode y.2.1 pc = .ok (.astore 5, 2)) (hp : pc + 2 = pc') (hn : Nat.blt 5 y.2.2.1 = true) (hc : okc x4 = true) (kk : J l g d y pc' (x0 :: x1 :: x2 :: x3 :: x4 :: some (rf g x) :: r) st m Q) : J l g d y pc (x0 :: x1 :: x2 :: x3 :: x4 :: o :: r) (rf g x :: st) m Q := jg_astore pc' 5 hdg hp (Nat.le_of_ble_eq_true hn) (okc_at rfl hc) kk
theorem j_iinc5 (pc' : Nat) {x0 x1 x2 x3 x4 : Option Value} {r : List (Option Value)} {n : Int} {x : Int32} (v : Int32) (hdg : decode y.2.1 pc = .ok (.iinc 5 n, 3)) (hp : pc + 3 = pc') (hn : Nat.blt 5 y.2.2.1 = true) (hc : okc x4 = true) (hv : Int32.ofInt n = v) (kk : J l g d y pc' (x0 :: x1 :: x2 :: x3 :: x4 :: some (.int (x + v)) :: r) st m Q) : J l g d y pc (x0 :: x1 :: x2 :: x3 :: x4 :: some (.int x) :: r) st m Q := jg_iinc pc' 5 hdg hp rfl (by rw [hv]) (Nat.le_of_ble_eq_true hn) (okc_at rfl hc) kk
theorem j_iload6 (pc' : Nat) {x0 x1 x2 x3 x4 x5 : Option Value} {r : List (Option Value)} {x : Int32} (hdg : decode y.2.1 pc = .ok (.iload 6, 2)) (hp : pc + 2 = pc') (kk : J l g d y pc' (x0 :: x1 :: x2 :: x3 :: x4 :: x5 :: some (.int x) :: r) (.int x :: st) m Q) : J l g d y pc (x0 :: x1 :: x2 :: x3 :: x4 :: x5 :: some (.int x) :: r) st m Q := jg_iload pc' 6 hdg hp rfl kk
theorem j_aload6 (pc' : Nat) {x0 x1 x2 x3 x4 x5 : Option Value} {r : List (Option Value)} {x : Nat} (hdg : decode y.2.1 pc = .ok (.aload 6, 2)) (hp : pc + 2 = pc') (kk : J l g d y pc' (x0 :: x1 :: x2 :: x3 :: x4 :: x5 :: some (rf g x) :: r) (rf g x :: st) m Q) : J l g d y pc (x0 :: x1 :: x2 :: x3 :: x4 :: x5 :: some (rf g x) :: r) st m Q := jg_aload pc' 6 hdg hp rfl kk
theorem j_lload6 (pc' : Nat) {x0 x1 x2 x3 x4 x5 : Option Value} {r : List (Option Value)} {x : Int64} (hdg : decode y.2.1 pc = .ok (.lload 6, 2)) (hp : pc + 2 = pc') (kk : J l g d y pc' (x0 :: x1 :: x2 :: x3 :: x4 :: x5 :: some (.long x) :: r) (.long x :: st) m Q) : J l g d y pc (x0 :: x1 :: x2 :: x3 :: x4 :: x5 :: some (.long x) :: r) st m Q := jg_lload pc' 6 hdg hp rfl kk
theorem j_istore6 (pc' : Nat) {x0 x1 x2 x3 x4 x5 : Option Value} {o : Option Value} {r : List (Option Value)} {x : Int32} (hdg : decode y.2.1 pc = .ok (.istore 6, 2)) (hp : pc + 2 = pc') (hn : Nat.blt 6 y.2.2.1 = true) (hc : okc x5 = true) (kk : J l g d y pc' (x0 :: x1 :: x2 :: x3 :: x4 :: x5 :: some (.int x) :: r) st m Q) : J l g d y pc (x0 :: x1 :: x2 :: x3 :: x4 :: x5 :: o :: r) (.int x :: st) m Q := jg_istore pc' 6 hdg hp (Nat.le_of_ble_eq_true hn) (okc_at rfl hc) kk
theorem j_astore6 (pc' : Nat) {x0 x1 x2 x3 x4 x5 : Option Value} {o : Option Value} {r : List (Option Value)} {x : Nat} (hdg : decode y.2.1 pc = .ok (.astore 6, 2)) (hp : pc + 2 = pc') (hn : Nat.blt 6 y.2.2.1 = true) (hc : okc x5 = true) (kk : J l g d y pc' (x0 :: x1 :: x2 :: x3 :: x4 :: x5 :: some (rf g x) :: r) st m Q) : J l g d y pc (x0 :: x1 :: x2 :: x3 :: x4 :: x5 :: o :: r) (rf g x :: st) m Q := jg_astore pc' 6 hdg hp (Nat.le_of_ble_eq_true hn) (okc_at rfl hc) kk
theorem j_iinc6 (pc' : Nat) {x0 x1 x2 x3 x4 x5 : Option Value} {r : List (Option Value)} {n : Int} {x : Int32} (v : Int32) (hdg : decode y.2.1 pc = .ok (.iinc 6 n, 3)) (hp : pc + 3 = pc') (hn : Nat.blt 6 y.2.2.1 = true) (hc : okc x5 = true) (hv : Int32.ofInt n = v) (kk : J l g d y pc' (x0 :: x1 :: x2 :: x3 :: x4 :: x5 :: some (.int (x + v)) :: r) st m Q) : J l g d y pc (x0 :: x1 :: x2 :: x3 :: x4 :: x5 :: some (.int x) :: r) st m Q := jg_iinc pc' 6 hdg hp rfl (by rw [hv]) (Nat.le_of_ble_eq_true hn) (okc_at rfl hc) kk
theorem j_iload7 (pc' : Nat) {x0 x1 x2 x3 x4 x5 x6 : Option Value} {r : List (Option Value)} {x : Int32} (hdg : decode y.2.1 pc = .ok (.iload 7, 2)) (hp : pc + 2 = pc') (kk : J l g d y pc' (x0 :: x1 :: x2 :: x3 :: x4 :: x5 :: x6 :: some (.int x) :: r) (.int x :: st) m Q) : J l g d y pc (x0 :: x1 :: x2 :: x3 :: x4 :: x5 :: x6 :: some (.int x) :: r) st m Q := jg_iload pc' 7 hdg hp rfl kk
theorem j_aload7 (pc' : Nat) {x0 x1 x2 x3 x4 x5 x6 : Option Value} {r : List (Option Value)} {x : Nat} (hdg : decode y.2.1 pc = .ok (.aload 7, 2)) (hp : pc + 2 = pc') (kk : J l g d y pc' (x0 :: x1 :: x2 :: x3 :: x4 :: x5 :: x6 :: some (rf g x) :: r) (rf g x :: st) m Q) : J l g d y pc (x0 :: x1 :: x2 :: x3 :: x4 :: x5 :: x6 :: some (rf g x) :: r) st m Q := jg_aload pc' 7 hdg hp rfl kk
theorem j_lload7 (pc' : Nat) {x0 x1 x2 x3 x4 x5 x6 : Option Value} {r : List (Option Value)} {x : Int64} (hdg : decode y.2.1 pc = .ok (.lload 7, 2)) (hp : pc + 2 = pc') (kk : J l g d y pc' (x0 :: x1 :: x2 :: x3 :: x4 :: x5 :: x6 :: some (.long x) :: r) (.long x :: st) m Q) : J l g d y pc (x0 :: x1 :: x2 :: x3 :: x4 :: x5 :: x6 :: some (.long x) :: r) st m Q := jg_lload pc' 7 hdg hp rfl kk
theorem j_istore7 (pc' : Nat) {x0 x1 x2 x3 x4 x5 x6 : Option Value} {o : Option Value} {r : List (Option Value)} {x : Int32} (hdg : decode y.2.1 pc = .ok (.istore 7, 2)) (hp : pc + 2 = pc') (hn : Nat.blt 7 y.2.2.1 = true) (hc : okc x6 = true) (kk : J l g d y pc' (x0 :: x1 :: x2 :: x3 :: x4 :: x5 :: x6 :: some (.int x) :: r) st m Q) : J l g d y pc (x0 :: x1 :: x2 :: x3 :: x4 :: x5 :: x6 :: o :: r) (.int x :: st) m Q := jg_istore pc' 7 hdg hp (Nat.le_of_ble_eq_true hn) (okc_at rfl hc) kk
theorem j_astore7 (pc' : Nat) {x0 x1 x2 x3 x4 x5 x6 : Option Value} {o : Option Value} {r : List (Option Value)} {x : Nat} (hdg : decode y.2.1 pc = .ok (.astore 7, 2)) (hp : pc + 2 = pc') (hn : Nat.blt 7 y.2.2.1 = true) (hc : okc x6 = true) (kk : J l g d y pc' (x0 :: x1 :: x2 :: x3 :: x4 :: x5 :: x6 :: some (rf g x) :: r) st m Q) : J l g d y pc (x0 :: x1 :: x2 :: x3 :: x4 :: x5 :: x6 :: o :: r) (rf g x :: st) m Q := jg_astore pc' 7 hdg hp (Nat.le_of_ble_eq_true hn) (okc_at rfl hc) kk
theorem j_iinc7 (pc' : Nat) {x0 x1 x2 x3 x4 x5 x6 : Option Value} {r : List (Option Value)} {n : Int} {x : Int32} (v : Int32) (hdg : decode y.2.1 pc = .ok (.iinc 7 n, 3)) (hp : pc + 3 = pc') (hn : Nat.blt 7 y.2.2.1 = true) (hc : okc x6 = true) (hv : Int32.ofInt n = v) (kk : J l g d y pc' (x0 :: x1 :: x2 :: x3 :: x4 :: x5 :: x6 :: some (.int (x + v)) :: r) st m Q) : J l g d y pc (x0 :: x1 :: x2 :: x3 :: x4 :: x5 :: x6 :: some (.int x) :: r) st m Q := jg_iinc pc' 7 hdg hp rfl (by rw [hv]) (Nat.le_of_ble_eq_true hn) (okc_at rfl hc) kk
theorem j_iload8 (pc' : Nat) {x0 x1 x2 x3 x4 x5 x6 x7 : Option Value} {r : List (Option Value)} {x : Int32} (hdg : decode y.2.1 pc = .ok (.iload 8, 2)) (hp : pc + 2 = pc') (kk : J l g d y pc' (x0 :: x1 :: x2 :: x3 :: x4 :: x5 :: x6 :: x7 :: some (.int x) :: r) (.int x :: st) m Q) : J l g d y pc (x0 :: x1 :: x2 :: x3 :: x4 :: x5 :: x6 :: x7 :: some (.int x) :: r) st m Q := jg_iload pc' 8 hdg hp rfl kk
theorem j_aload8 (pc' : Nat) {x0 x1 x2 x3 x4 x5 x6 x7 : Option Value} {r : List (Option Value)} {x : Nat} (hdg : decode y.2.1 pc = .ok (.aload 8, 2)) (hp : pc + 2 = pc') (kk : J l g d y pc' (x0 :: x1 :: x2 :: x3 :: x4 :: x5 :: x6 :: x7 :: some (rf g x) :: r) (rf g x :: st) m Q) : J l g d y pc (x0 :: x1 :: x2 :: x3 :: x4 :: x5 :: x6 :: x7 :: some (rf g x) :: r) st m Q := jg_aload pc' 8 hdg hp rfl kk
theorem j_lload8 (pc' : Nat) {x0 x1 x2 x3 x4 x5 x6 x7 : Option Value} {r : List (Option Value)} {x : Int64} (hdg : decode y.2.1 pc = .ok (.lload 8, 2)) (hp : pc + 2 = pc') (kk : J l g d y pc' (x0 :: x1 :: x2 :: x3 :: x4 :: x5 :: x6 :: x7 :: some (.long x) :: r) (.long x :: st) m Q) : J l g d y pc (x0 :: x1 :: x2 :: x3 :: x4 :: x5 :: x6 :: x7 :: some (.long x) :: r) st m Q := jg_lload pc' 8 hdg hp rfl kk
theorem j_istore8 (pc' : Nat) {x0 x1 x2 x3 x4 x5 x6 x7 : Option Value} {o : Option Value} {r : List (Option Value)} {x : Int32} (hdg : decode y.2.1 pc = .ok (.istore 8, 2)) (hp : pc + 2 = pc') (hn : Nat.blt 8 y.2.2.1 = true) (hc : okc x7 = true) (kk : J l g d y pc' (x0 :: x1 :: x2 :: x3 :: x4 :: x5 :: x6 :: x7 :: some (.int x) :: r) st m Q) : J l g d y pc (x0 :: x1 :: x2 :: x3 :: x4 :: x5 :: x6 :: x7 :: o :: r) (.int x :: st) m Q := jg_istore pc' 8 hdg hp (Nat.le_of_ble_eq_true hn) (okc_at rfl hc) kk
theorem j_astore8 (pc' : Nat) {x0 x1 x2 x3 x4 x5 x6 x7 : Option Value} {o : Option Value} {r : List (Option Value)} {x : Nat} (hdg : decode y.2.1 pc = .ok (.astore 8, 2)) (hp : pc + 2 = pc') (hn : Nat.blt 8 y.2.2.1 = true) (hc : okc x7 = true) (kk : J l g d y pc' (x0 :: x1 :: x2 :: x3 :: x4 :: x5 :: x6 :: x7 :: some (rf g x) :: r) st m Q) : J l g d y pc (x0 :: x1 :: x2 :: x3 :: x4 :: x5 :: x6 :: x7 :: o :: r) (rf g x :: st) m Q := jg_astore pc' 8 hdg hp (Nat.le_of_ble_eq_true hn) (okc_at rfl hc) kk
theorem j_iinc8 (pc' : Nat) {x0 x1 x2 x3 x4 x5 x6 x7 : Option Value} {r : List (Option Value)} {n : Int} {x : Int32} (v : Int32) (hdg : decode y.2.1 pc = .ok (.iinc 8 n, 3)) (hp : pc + 3 = pc') (hn : Nat.blt 8 y.2.2.1 = true) (hc : okc x7 = true) (hv : Int32.ofInt n = v) (kk : J l g d y pc' (x0 :: x1 :: x2 :: x3 :: x4 :: x5 :: x6 :: x7 :: some (.int (x + v)) :: r) st m Q) : J l g d y pc (x0 :: x1 :: x2 :: x3 :: x4 :: x5 :: x6 :: x7 :: some (.int x) :: r) st m Q := jg_iinc pc' 8 hdg hp rfl (by rw [hv]) (Nat.le_of_ble_eq_true hn) (okc_at rfl hc) kk
theorem j_iload9 (pc' : Nat) {x0 x1 x2 x3 x4 x5 x6 x7 x8 : Option Value} {r : List (Option Value)} {x : Int32} (hdg : decode y.2.1 pc = .ok (.iload 9, 2)) (hp : pc + 2 = pc') (kk : J l g d y pc' (x0 :: x1 :: x2 :: x3 :: x4 :: x5 :: x6 :: x7 :: x8 :: some (.int x) :: r) (.int x :: st) m Q) : J l g d y pc (x0 :: x1 :: x2 :: x3 :: x4 :: x5 :: x6 :: x7 :: x8 :: some (.int x) :: r) st m Q := jg_iload pc' 9 hdg hp rfl kk
theorem j_aload9 (pc' : Nat) {x0 x1 x2 x3 x4 x5 x6 x7 x8 : Option Value} {r : List (Option Value)} {x : Nat} (hdg : decode y.2.1 pc = .ok (.aload 9, 2)) (hp : pc + 2 = pc') (kk : J l g d y pc' (x0 :: x1 :: x2 :: x3 :: x4 :: x5 :: x6 :: x7 :: x8 :: some (rf g x) :: r) (rf g x :: st) m Q) : J l g d y pc (x0 :: x1 :: x2 :: x3 :: x4 :: x5 :: x6 :: x7 :: x8 :: some (rf g x) :: r) st m Q := jg_aload pc' 9 hdg hp rfl kk
theorem j_lload9 (pc' : Nat) {x0 x1 x2 x3 x4 x5 x6 x7 x8 : Option Value} {r : List (Option Value)} {x : Int64} (hdg : decode y.2.1 pc = .ok (.lload 9, 2)) (hp : pc + 2 = pc') (kk : J l g d y pc' (x0 :: x1 :: x2 :: x3 :: x4 :: x5 :: x6 :: x7 :: x8 :: some (.long x) :: r) (.long x :: st) m Q) : J l g d y pc (x0 :: x1 :: x2 :: x3 :: x4 :: x5 :: x6 :: x7 :: x8 :: some (.long x) :: r) st m Q := jg_lload pc' 9 hdg hp rfl kk
theorem j_istore9 (pc' : Nat) {x0 x1 x2 x3 x4 x5 x6 x7 x8 : Option Value} {o : Option Value} {r : List (Option Value)} {x : Int32} (hdg : decode y.2.1 pc = .ok (.istore 9, 2)) (hp : pc + 2 = pc') (hn : Nat.blt 9 y.2.2.1 = true) (hc : okc x8 = true) (kk : J l g d y pc' (x0 :: x1 :: x2 :: x3 :: x4 :: x5 :: x6 :: x7 :: x8 :: some (.int x) :: r) st m Q) : J l g d y pc (x0 :: x1 :: x2 :: x3 :: x4 :: x5 :: x6 :: x7 :: x8 :: o :: r) (.int x :: st) m Q := jg_istore pc' 9 hdg hp (Nat.le_of_ble_eq_true hn) (okc_at rfl hc) kk
theorem j_astore9 (pc' : Nat) {x0 x1 x2 x3 x4 x5 x6 x7 x8 : Option Value} {o : Option Value} {r : List (Option Value)} {x : Nat} (hdg : decode y.2.1 pc = .ok (.astore 9, 2)) (hp : pc + 2 = pc') (hn : Nat.blt 9 y.2.2.1 = true) (hc : okc x8 = true) (kk : J l g d y pc' (x0 :: x1 :: x2 :: x3 :: x4 :: x5 :: x6 :: x7 :: x8 :: some (rf g x) :: r) st m Q) : J l g d y pc (x0 :: x1 :: x2 :: x3 :: x4 :: x5 :: x6 :: x7 :: x8 :: o :: r) (rf g x :: st) m Q := jg_astore pc' 9 hdg hp (Nat.le_of_ble_eq_true hn) (okc_at rfl hc) kk
theorem j_iinc9 (pc' : Nat) {x0 x1 x2 x3 x4 x5 x6 x7 x8 : Option Value} {r : List (Option Value)} {n : Int} {x : Int32} (v : Int32) (hdg : decode y.2.1 pc = .ok (.iinc 9 n, 3)) (hp : pc + 3 = pc') (hn : Nat.blt 9 y.2.2.1 = true) (hc : okc x8 = true) (hv : Int32.ofInt n = v) (kk : J l g d y pc' (x0 :: x1 :: x2 :: x3 :: x4 :: x5 :: x6 :: x7 :: x8 :: some (.int (x + v)) :: r) st m Q) : J l g d y pc (x0 :: x1 :: x2 :: x3 :: x4 :: x5 :: x6 :: x7 :: x8 :: some (.int x) :: r) st m Q := jg_iinc pc' 9 hdg hp rfl (by rw [hv]) (Nat.le_of_ble_eq_true hn) (okc_at rfl hc) kk
theorem j_iload10 (pc' : Nat) {x0 x1 x2 x3 x4 x5 x6 x7 x8 x9 : Option Value} {r : List (Option Value)} {x : Int32} (hdg : decode y.2.1 pc = .ok (.iload 10, 2)) (hp : pc + 2 = pc') (kk : J l g d y pc' (x0 :: x1 :: x2 :: x3 :: x4 :: x5 :: x6 :: x7 :: x8 :: x9 :: some (.int x) :: r) (.int x :: st) m Q) : J l g d y pc (x0 :: x1 :: x2 :: x3 :: x4 :: x5 :: x6 :: x7 :: x8 :: x9 :: some (.int x) :: r) st m Q := jg_iload pc' 10 hdg hp rfl kk
theorem j_aload10 (pc' : Nat) {x0 x1 x2 x3 x4 x5 x6 x7 x8 x9 : Option Value} {r : List (Option Value)} {x : Nat} (hdg : decode y.2.1 pc = .ok (.aload 10, 2)) (hp : pc + 2 = pc') (kk : J l g d y pc' (x0 :: x1 :: x2 :: x3 :: x4 :: x5 :: x6 :: x7 :: x8 :: x9 :: some (rf g x) :: r) (rf g x :: st) m Q) : J l g d y pc (x0 :: x1 :: x2 :: x3 :: x4 :: x5 :: x6 :: x7 :: x8 :: x9 :: some (rf g x) :: r) st m Q := jg_aload pc' 10 hdg hp rfl kk
theorem j_lload10 (pc' : Nat) {x0 x1 x2 x3 x4 x5 x6 x7 x8 x9 : Option Value} {r : List (Option Value)} {x : Int64} (hdg : decode y.2.1 pc = .ok (.lload 10, 2)) (hp : pc + 2 = pc') (kk : J l g d y pc' (x0 :: x1 :: x2 :: x3 :: x4 :: x5 :: x6 :: x7 :: x8 :: x9 :: some (.long x) :: r) (.long x :: st) m Q) : J l g d y pc (x0 :: x1 :: x2 :: x3 :: x4 :: x5 :: x6 :: x7 :: x8 :: x9 :: some (.long x) :: r) st m Q := jg_lload pc' 10 hdg hp rfl kk
theorem j_istore10 (pc' : Nat) {x0 x1 x2 x3 x4 x5 x6 x7 x8 x9 : Option Value} {o : Option Value} {r : List (Option Value)} {x : Int32} (hdg : decode y.2.1 pc = .ok (.istore 10, 2)) (hp : pc + 2 = pc') (hn : Nat.blt 10 y.2.2.1 = true) (hc : okc x9 = true) (kk : J l g d y pc' (x0 :: x1 :: x2 :: x3 :: x4 :: x5 :: x6 :: x7 :: x8 :: x9 :: some (.int x) :: r) st m Q) : J l g d y pc (x0 :: x1 :: x2 :: x3 :: x4 :: x5 :: x6 :: x7 :: x8 :: x9 :: o :: r) (.int x :: st) m Q := jg_istore pc' 10 hdg hp (Nat.le_of_ble_eq_true hn) (okc_at rfl hc) kk
theorem j_astore10 (pc' : Nat) {x0 x1 x2 x3 x4 x5 x6 x7 x8 x9 : Option Value} {o : Option Value} {r : List (Option Value)} {x : Nat} (hdg : decode y.2.1 pc = .ok (.astore 10, 2)) (hp : pc + 2 = pc') (hn : Nat.blt 10 y.2.2.1 = true) (hc : okc x9 = true) (kk : J l g d y pc' (x0 :: x1 :: x2 :: x3 :: x4 :: x5 :: x6 :: x7 :: x8 :: x9 :: some (rf g x) :: r) st m Q) : J l g d y pc (x0 :: x1 :: x2 :: x3 :: x4 :: x5 :: x6 :: x7 :: x8 :: x9 :: o :: r) (rf g x :: st) m Q := jg_astore pc' 10 hdg hp (Nat.le_of_ble_eq_true hn) (okc_at rfl hc) kk
theorem j_iinc10 (pc' : Nat) {x0 x1 x2 x3 x4 x5 x6 x7 x8 x9 : Option Value} {r : List (Option Value)} {n : Int} {x : Int32} (v : Int32) (hdg : decode y.2.1 pc = .ok (.iinc 10 n, 3)) (hp : pc + 3 = pc') (hn : Nat.blt 10 y.2.2.1 = true) (hc : okc x9 = true) (hv : Int32.ofInt n = v) (kk : J l g d y pc' (x0 :: x1 :: x2 :: x3 :: x4 :: x5 :: x6 :: x7 :: x8 :: x9 :: some (.int (x + v)) :: r) st m Q) : J l g d y pc (x0 :: x1 :: x2 :: x3 :: x4 :: x5 :: x6 :: x7 :: x8 :: x9 :: some (.int x) :: r) st m Q := jg_iinc pc' 10 hdg hp rfl (by rw [hv]) (Nat.le_of_ble_eq_true hn) (okc_at rfl hc) kk
theorem j_iload11 (pc' : Nat) {x0 x1 x2 x3 x4 x5 x6 x7 x8 x9 x10 : Option Value} {r : List (Option Value)} {x : Int32} (hdg : decode y.2.1 pc = .ok (.iload 11, 2)) (hp : pc + 2 = pc') (kk : J l g d y pc' (x0 :: x1 :: x2 :: x3 :: x4 :: x5 :: x6 :: x7 :: x8 :: x9 :: x10 :: some (.int x) :: r) (.int x :: st) m Q) : J l g d y pc (x0 :: x1 :: x2 :: x3 :: x4 :: x5 :: x6 :: x7 :: x8 :: x9 :: x10 :: some (.int x) :: r) st m Q := jg_iload pc' 11 hdg hp rfl kk
theorem j_aload11 (pc' : Nat) {x0 x1 x2 x3 x4 x5 x6 x7 x8 x9 x10 : Option Value} {r : List (Option Value)} {x : Nat} (hdg : decode y.2.1 pc = .ok (.aload 11, 2)) (hp : pc + 2 = pc') (kk : J l g d y pc' (x0 :: x1 :: x2 :: x3 :: x4 :: x5 :: x6 :: x7 :: x8 :: x9 :: x10 :: some (rf g x) :: r) (rf g x :: st) m Q) : J l g d y pc (x0 :: x1 :: x2 :: x3 :: x4 :: x5 :: x6 :: x7 :: x8 :: x9 :: x10 :: some (rf g x) :: r) st m Q := jg_aload pc' 11 hdg hp rfl kk
theorem j_lload11 (pc' : Nat) {x0 x1 x2 x3 x4 x5 x6 x7 x8 x9 x10 : Option Value} {r : List (Option Value)} {x : Int64} (hdg : decode y.2.1 pc = .ok (.lload 11, 2)) (hp : pc + 2 = pc') (kk : J l g d y pc' (x0 :: x1 :: x2 :: x3 :: x4 :: x5 :: x6 :: x7 :: x8 :: x9 :: x10 :: some (.long x) :: r) (.long x :: st) m Q) : J l g d y pc (x0 :: x1 :: x2 :: x3 :: x4 :: x5 :: x6 :: x7 :: x8 :: x9 :: x10 :: some (.long x) :: r) st m Q := jg_lload pc' 11 hdg hp rfl kk
theorem j_istore11 (pc' : Nat) {x0 x1 x2 x3 x4 x5 x6 x7 x8 x9 x10 : Option Value} {o : Option Value} {r : List (Option Value)} {x : Int32} (hdg : decode y.2.1 pc = .ok (.istore 11, 2)) (hp : pc + 2 = pc') (hn : Nat.blt 11 y.2.2.1 = true) (hc : okc x10 = true) (kk : J l g d y pc' (x0 :: x1 :: x2 :: x3 :: x4 :: x5 :: x6 :: x7 :: x8 :: x9 :: x10 :: some (.int x) :: r) st m Q) : J l g d y pc (x0 :: x1 :: x2 :: x3 :: x4 :: x5 :: x6 :: x7 :: x8 :: x9 :: x10 :: o :: r) (.int x :: st) m Q := jg_istore pc' 11 hdg hp (Nat.le_of_ble_eq_true hn) (okc_at rfl hc) kk
theorem j_astore11 (pc' : Nat) {x0 x1 x2 x3 x4 x5 x6 x7 x8 x9 x10 : Option Value} {o : Option Value} {r : List (Option Value)} {x : Nat} (hdg : decode y.2.1 pc = .ok (.astore 11, 2)) (hp : pc + 2 = pc') (hn : Nat.blt 11 y.2.2.1 = true) (hc : okc x10 = true) (kk : J l g d y pc' (x0 :: x1 :: x2 :: x3 :: x4 :: x5 :: x6 :: x7 :: x8 :: x9 :: x10 :: some (rf g x) :: r) st m Q) : J l g d y pc (x0 :: x1 :: x2 :: x3 :: x4 :: x5 :: x6 :: x7 :: x8 :: x9 :: x10 :: o :: r) (rf g x :: st) m Q := jg_astore pc' 11 hdg hp (Nat.le_of_ble_eq_true hn) (okc_at rfl hc) kk
theorem j_iinc11 (pc' : Nat) {x0 x1 x2 x3 x4 x5 x6 x7 x8 x9 x10 : Option Value} {r : List (Option Value)} {n : Int} {x : Int32} (v : Int32) (hdg : decode y.2.1 pc = .ok (.iinc 11 n, 3)) (hp : pc + 3 = pc') (hn : Nat.blt 11 y.2.2.1 = true) (hc : okc x10 = true) (hv : Int32.ofInt n = v) (kk : J l g d y pc' (x0 :: x1 :: x2 :: x3 :: x4 :: x5 :: x6 :: x7 :: x8 :: x9 :: x10 :: some (.int (x + v)) :: r) st m Q) : J l g d y pc (x0 :: x1 :: x2 :: x3 :: x4 :: x5 :: x6 :: x7 :: x8 :: x9 :: x10 :: some (.int x) :: r) st m Q := jg_iinc pc' 11 hdg hp rfl (by rw [hv]) (Nat.le_of_ble_eq_true hn) (okc_at rfl hc) kk
theorem j_iload12 (pc' : Nat) {x0 x1 x2 x3 x4 x5 x6 x7 x8 x9 x10 x11 : Option Value} {r : List (Option Value)} {x : Int32} (hdg : decode y.2.1 pc = .ok (.iload 12, 2)) (hp : pc + 2 = pc') (kk : J l g d y pc' (x0 :: x1 :: x2 :: x3 :: x4 :: x5 :: x6 :: x7 :: x8 :: x9 :: x10 :: x11 :: some (.int x) :: r) (.int x :: st) m Q) : J l g d y pc (x0 :: x1 :: x2 :: x3 :: x4 :: x5 :: x6 :: x7 :: x8 :: x9 :: x10 :: x11 :: some (.int x) :: r) st m Q := jg_iload pc' 12 hdg hp rfl kk
theorem j_aload12 (pc' : Nat) {x0 x1 x2 x3 x4 x5 x6 x7 x8 x9 x10 x11 : Option Value} {r : List (Option Value)} {x : Nat} (hdg : decode y.2.1 pc = .ok (.aload 12, 2)) (hp : pc + 2 = pc') (kk : J l g d y pc' (x0 :: x1 :: x2 :: x3 :: x4 :: x5 :: x6 :: x7 :: x8 :: x9 :: x10 :: x11 :: some (rf g x) :: r) (rf g x :: st) m Q) : J l g d y pc (x0 :: x1 :: x2 :: x3 :: x4 :: x5 :: x6 :: x7 :: x8 :: x9 :: x10 :: x11 :: some (rf g x) :: r) st m Q := jg_aload pc' 12 hdg hp rfl kk
theorem j_lload12 (pc' : Nat) {x0 x1 x2 x3 x4 x5 x6 x7 x8 x9 x10 x11 : Option Value} {r : List (Option Value)} {x : Int64} (hdg : decode y.2.1 pc = .ok (.lload 12, 2)) (hp : pc + 2 = pc') (kk : J l g d y pc' (x0 :: x1 :: x2 :: x3 :: x4 :: x5 :: x6 :: x7 :: x8 :: x9 :: x10 :: x11 :: some (.long x) :: r) (.long x :: st) m Q) : J l g d y pc (x0 :: x1 :: x2 :: x3 :: x4 :: x5 :: x6 :: x7 :: x8 :: x9 :: x10 :: x11 :: some (.long x) :: r) st m Q := jg_lload pc' 12 hdg hp rfl kk
theorem j_istore12 (pc' : Nat) {x0 x1 x2 x3 x4 x5 x6 x7 x8 x9 x10 x11 : Option Value} {o : Option Value} {r : List (Option Value)} {x : Int32} (hdg : decode y.2.1 pc = .ok (.istore 12, 2)) (hp : pc + 2 = pc') (hn : Nat.blt 12 y.2.2.1 = true) (hc : okc x11 = true) (kk : J l g d y pc' (x0 :: x1 :: x2 :: x3 :: x4 :: x5 :: x6 :: x7 :: x8 :: x9 :: x10 :: x11 :: some (.int x) :: r) st m Q) : J l g d y pc (x0 :: x1 :: x2 :: x3 :: x4 :: x5 :: x6 :: x7 :: x8 :: x9 :: x10 :: x11 :: o :: r) (.int x :: st) m Q := jg_istore pc' 12 hdg hp (Nat.le_of_ble_eq_true hn) (okc_at rfl hc) kk
theorem j_astore12 (pc' : Nat) {x0 x1 x2 x3 x4 x5 x6 x7 x8 x9 x10 x11 : Option Value} {o : Option Value} {r : List (Option Value)} {x : Nat} (hdg : decode y.2.1 pc = .ok (.astore 12, 2)) (hp : pc + 2 = pc') (hn : Nat.blt 12 y.2.2.1 = true) (hc : okc x11 = true) (kk : J l g d y pc' (x0 :: x1 :: x2 :: x3 :: x4 :: x5 :: x6 :: x7 :: x8 :: x9 :: x10 :: x11 :: some (rf g x) :: r) st m Q) : J l g d y pc (x0 :: x1 :: x2 :: x3 :: x4 :: x5 :: x6 :: x7 :: x8 :: x9 :: x10 :: x11 :: o :: r) (rf g x :: st) m Q := jg_astore pc' 12 hdg hp (Nat.le_of_ble_eq_true hn) (okc_at rfl hc) kk
theorem j_iinc12 (pc' : Nat) {x0 x1 x2 x3 x4 x5 x6 x7 x8 x9 x10 x11 : Option Value} {r : List (Option Value)} {n : Int} {x : Int32} (v : Int32) (hdg : decode y.2.1 pc = .ok (.iinc 12 n, 3)) (hp : pc + 3 = pc') (hn : Nat.blt 12 y.2.2.1 = true) (hc : okc x11 = true) (hv : Int32.ofInt n = v) (kk : J l g d y pc' (x0 :: x1 :: x2 :: x3 :: x4 :: x5 :: x6 :: x7 :: x8 :: x9 :: x10 :: x11 :: some (.int (x + v)) :: r) st m Q) : J l g d y pc (x0 :: x1 :: x2 :: x3 :: x4 :: x5 :: x6 :: x7 :: x8 :: x9 :: x10 :: x11 :: some (.int x) :: r) st m Q := jg_iinc pc' 12 hdg hp rfl (by rw [hv]) (Nat.le_of_ble_eq_true hn) (okc_at rfl hc) kk
theorem j_iload13 (pc' : Nat) {x0 x1 x2 x3 x4 x5 x6 x7 x8 x9 x10 x11 x12 : Option Value} {r : List (Option Value)} {x : Int32} (hdg : decode y.2.1 pc = .ok (.iload 13, 2)) (hp : pc + 2 = pc') (kk : J l g d y pc' (x0 :: x1 :: x2 :: x3 :: x4 :: x5 :: x6 :: x7 :: x8 :: x9 :: x10 :: x11 :: x12 :: some (.int x) :: r) (.int x :: st) m Q) : J l g d y pc (x0 :: x1 :: x2 :: x3 :: x4 :: x5 :: x6 :: x7 :: x8 :: x9 :: x10 :: x11 :: x12 :: some (.int x) :: r) st m Q := jg_iload pc' 13 hdg hp rfl kk
theorem j_aload13 (pc' : Nat) {x0 x1 x2 x3 x4 x5 x6 x7 x8 x9 x10 x11 x12 : Option Value} {r : List (Option Value)} {x : Nat} (hdg : decode y.2.1 pc = .ok (.aload 13, 2)) (hp : pc + 2 = pc') (kk : J l g d y pc' (x0 :: x1 :: x2 :: x3 :: x4 :: x5 :: x6 :: x7 :: x8 :: x9 :: x10 :: x11 :: x12 :: some (rf g x) :: r) (rf g x :: st) m Q) : J l g d y pc (x0 :: x1 :: x2 :: x3 :: x4 :: x5 :: x6 :: x7 :: x8 :: x9 :: x10 :: x11 :: x12 :: some (rf g x) :: r) st m Q := jg_aload pc' 13 hdg hp rfl kk
theorem j_lload13 (pc' : Nat) {x0 x1 x2 x3 x4 x5 x6 x7 x8 x9 x10 x11 x12 : Option Value} {r : List (Option Value)} {x : Int64} (hdg : decode y.2.1 pc = .ok (.lload 13, 2)) (hp : pc + 2 = pc') (kk : J l g d y pc' (x0 :: x1 :: x2 :: x3 :: x4 :: x5 :: x6 :: x7 :: x8 :: x9 :: x10 :: x11 :: x12 :: some (.long x) :: r) (.long x :: st) m Q) : J l g d y pc (x0 :: x1 :: x2 :: x3 :: x4 :: x5 :: x6 :: x7 :: x8 :: x9 :: x10 :: x11 :: x12 :: some (.long x) :: r) st m Q := jg_lload pc' 13 hdg hp rfl kk
theorem j_istore13 (pc' : Nat) {x0 x1 x2 x3 x4 x5 x6 x7 x8 x9 x10 x11 x12 : Option Value} {o : Option Value} {r : List (Option Value)} {x : Int32} (hdg : decode y.2.1 pc = .ok (.istore 13, 2)) (hp : pc + 2 = pc') (hn : Nat.blt 13 y.2.2.1 = true) (hc : okc x12 = true) (kk : J l g d y pc' (x0 :: x1 :: x2 :: x3 :: x4 :: x5 :: x6 :: x7 :: x8 :: x9 :: x10 :: x11 :: x12 :: some (.int x) :: r) st m Q) : J l g d y pc (x0 :: x1 :: x2 :: x3 :: x4 :: x5 :: x6 :: x7 :: x8 :: x9 :: x10 :: x11 :: x12 :: o :: r) (.int x :: st) m Q := jg_istore pc' 13 hdg hp (Nat.le_of_ble_eq_true hn) (okc_at rfl hc) kk
theorem j_astore13 (pc' : Nat) {x0 x1 x2 x3 x4 x5 x6 x7 x8 x9 x10 x11 x12 : Option Value} {o : Option Value} {r : List (Option Value)} {x : Nat} (hdg : decode y.2.1 pc = .ok (.astore 13, 2)) (hp : pc + 2 = pc') (hn : Nat.blt 13 y.2.2.1 = true) (hc : okc x12 = true) (kk : J l g d y pc' (x0 :: x1 :: x2 :: x3 :: x4 :: x5 :: x6 :: x7 :: x8 :: x9 :: x10 :: x11 :: x12 :: some (rf g x) :: r) st m Q) : J l g d y pc (x0 :: x1 :: x2 :: x3 :: x4 :: x5 :: x6 :: x7 :: x8 :: x9 :: x10 :: x11 :: x12 :: o :: r) (rf g x :: st) m Q := jg_astore pc' 13 hdg hp (Nat.le_of_ble_eq_true hn) (okc_at rfl hc) kk
theorem j_iinc13 (pc' : Nat) {x0 x1 x2 x3 x4 x5 x6 x7 x8 x9 x10 x11 x12 : Option Value} {r : List (Option Value)} {n : Int} {x : Int32} (v : Int32) (hdg : decode y.2.1 pc = .ok (.iinc 13 n, 3)) (hp : pc + 3 = pc') (hn : Nat.blt 13 y.2.2.1 = true) (hc : okc x12 = true) (hv : Int32.ofInt n = v) (kk : J l g d y pc' (x0 :: x1 :: x2 :: x3 :: x4 :: x5 :: x6 :: x7 :: x8 :: x9 :: x10 :: x11 :: x12 :: some (.int (x + v)) :: r) st m Q) : J l g d y pc (x0 :: x1 :: x2 :: x3 :: x4 :: x5 :: x6 :: x7 :: x8 :: x9 :: x10 :: x11 :: x12 :: some (.int x) :: r) st m Q := jg_iinc pc' 13 hdg hp rfl (by rw [hv]) (Nat.le_of_ble_eq_true hn) (okc_at rfl hc) kk
end JR
