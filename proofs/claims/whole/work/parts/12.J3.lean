/-! heap rows, returns, calls -/
theorem u_in_6 : ∀ w ∈ u_ws RX6 TX6 9, w ∈ lw_gd := by decide +kernel
theorem u_in_8 : ∀ w ∈ u_ws RX8 TX8 7, w ∈ lw_gd := by decide +kernel
theorem u_in_9 : ∀ w ∈ u_ws RX9 TX9 4, w ∈ lw_gd := by decide +kernel
theorem u_in_10 : ∀ w ∈ u_ws RX10 TX10 14, w ∈ lw_gd := by decide +kernel
theorem u_in_11 : ∀ w ∈ u_ws RX11 TX11 11, w ∈ lw_gd := by decide +kernel
theorem u_in_12 : ∀ w ∈ u_ws RX12 TX12 22, w ∈ lw_gd := by decide +kernel
def clsP (q : vw_C) : Prop := (∀ w ∈ u_ws q.1 q.2.1 q.2.2, w ∈ lw_gd) ∧ (∃ ty0 : Nat → FieldType, ∀ k, k < q.2.2 → parseFieldDescriptor (q.2.1 k).2.2.1 = some (ty0 k)) ∧ ∀ a, a < q.2.2 → ∀ b, b < q.2.2 → a ≠ b → (q.2.1 a).2.1 ≠ (q.2.1 b).2.1
theorem clsOK {ci : Nat} {q : vw_C} (h : cls[ci]? = some q) : clsP q := by
  match ci, h with
  | 0, h => cases h; exact ⟨fun w h => by simp [u_ws] at h, ⟨tyX0, tyX0_ok⟩, nmX0⟩
  | 1, h => cases h; exact ⟨fun w h => by simp [u_ws] at h, ⟨tyX1, tyX1_ok⟩, nmX1⟩
  | 2, h => cases h; exact ⟨fun w h => by simp [u_ws] at h, ⟨tyX2, tyX2_ok⟩, nmX2⟩
  | 3, h => cases h; exact ⟨fun w h => by simp [u_ws] at h, ⟨tyX3, tyX3_ok⟩, nmX3⟩
  | 4, h => cases h; exact ⟨fun w h => by simp [u_ws] at h, ⟨tyX4, tyX4_ok⟩, nmX4⟩
  | 5, h => cases h; exact ⟨fun w h => by simp [u_ws] at h, ⟨tyX5, tyX5_ok⟩, nmX5⟩
  | 6, h => cases h; exact ⟨u_in_6, ⟨tyX6, tyX6_ok⟩, nmX6⟩
  | 7, h => cases h; exact ⟨fun w h => by simp [u_ws] at h, ⟨tyX7, tyX7_ok⟩, nmX7⟩
  | 8, h => cases h; exact ⟨u_in_8, ⟨tyX8, tyX8_ok⟩, nmX8⟩
  | 9, h => cases h; exact ⟨u_in_9, ⟨tyX9, tyX9_ok⟩, nmX9⟩
  | 10, h => cases h; exact ⟨u_in_10, ⟨tyX10, tyX10_ok⟩, nmX10⟩
  | 11, h => cases h; exact ⟨u_in_11, ⟨tyX11, tyX11_ok⟩, nmX11⟩
  | 12, h => cases h; exact ⟨u_in_12, ⟨tyX12, tyX12_ok⟩, nmX12⟩
  | k + 13, h => simp [cls] at h
def FL (own : String) (idx ci k : Nat) : Prop := ∃ q : vw_C, cls[ci]? = some q ∧ k < q.2.2 ∧ Cond.fieldLink own idx (q.2.1 k).1 (q.2.1 k).2.1 (q.2.1 k).2.2.1 ∈ lw_gd
def FP (own : String) (idx ci k : Nat) (ty : FieldType) : Prop := ∃ q : vw_C, cls[ci]? = some q ∧ k < q.2.2 ∧ Cond.fieldLink own idx (q.2.1 k).1 (q.2.1 k).2.1 (q.2.1 k).2.2.1 ∈ lw_gd ∧ (q.2.1 k).2.2.2 = false ∧ parseFieldDescriptor (q.2.1 k).2.2.1 = some ty
def okO (a ci k : Nat) : Bool := Nat.blt a 81 && (Nat.beq (tg a) 0 && (Nat.beq (cx a) ci && Nat.blt k (ln a)))
def okC (a ci : Nat) : Bool := Nat.blt a 81 && (Nat.beq (tg a) 0 && Nat.beq (cx a) ci)
def okA (a : Nat) : Bool := Nat.blt a 81 && Nat.beq (tg a) 1
def okR (a : Nat) : Bool := Nat.blt a 81 && Nat.beq (tg a) 2
theorem okO_s {a ci k : Nat} (h : okO a ci k = true) : a < 81 ∧ tg a = 0 ∧ cx a = ci ∧ k < ln a := by
  simp only [okO, Bool.and_eq_true] at h
  exact ⟨Nat.le_of_ble_eq_true h.1, Nat.eq_of_beq_eq_true h.2.1, Nat.eq_of_beq_eq_true h.2.2.1, Nat.le_of_ble_eq_true h.2.2.2⟩
theorem okA_s {a : Nat} (h : okA a = true) : a < 81 ∧ tg a = 1 := by
  simp only [okA, Bool.and_eq_true] at h
  exact ⟨Nat.le_of_ble_eq_true h.1, Nat.eq_of_beq_eq_true h.2⟩
theorem okR_s {a : Nat} (h : okR a = true) : a < 81 ∧ tg a = 2 := by
  simp only [okR, Bool.and_eq_true] at h
  exact ⟨Nat.le_of_ble_eq_true h.1, Nat.eq_of_beq_eq_true h.2⟩
section JH
variable {l : Launch} {g : Gv} {d : Nat} {y : MD} {pc : Nat} {ls : List (Option Value)} {st : List Value} {m : Mem} {Q : Option Value → Mem → Prop}
theorem jg_get (pc' : Nat) {a i ci k : Nat} {v : Value} (hdg : decode y.2.1 pc = .ok (.getfield i, 3)) (hp : pc + 3 = pc') (hf : FL y.1.cls i ci k) (ho : okO a ci k = true) (hv : fv g m a k = v) (kk : J l g d y pc' ls (v :: st) m Q) : J l g d y pc ls (rf g a :: st) m Q := by
  intro p e s mi args below meth c H locs la C R S L
  subst hp
  obtain ⟨q, h1, h2, h3⟩ := hf
  obtain ⟨o1, o2, o3, o4⟩ := okO_s ho
  refine va_get (D := gD g) (cl := cls) (tys := tys g) (ws := Wd g m) (C := q.1) (T := q.2.1) (N := q.2.2) (ci := ci) (fs := (List.range (ln a)).map (fv g m a)) C.1 C.2.1 C.2.2.2.2.2.1 (clsOK h1).1 C.2.2.2.2.1 (C.2.2.2.2.2.2.2).K R.1 a (by rw [Wd_get g m o1, cell_obj o2, o3]) h1 k h2 (C.2.2.2.2.2.1 _ h3) (fun _ h => h) ?_ hdg (kk p e s mi args below meth c H locs la C R S L)
  rw [List.getElem?_map, List.getElem?_range o4, ← hv]
  rfl
theorem j_getI (pc' : Nat) {a i ci k : Nat} (hdg : decode y.2.1 pc = .ok (.getfield i, 3)) (hp : pc + 3 = pc') (hf : FL y.1.cls i ci k) (ho : okO a ci k = true) (hr : rs a k = 0) (kk : J l g d y pc' ls (.int (m a k) :: st) m Q) : J l g d y pc ls (rf g a :: st) m Q :=
  jg_get pc' hdg hp hf ho (by unfold fv; rw [hr]) kk
theorem j_getR (pc' : Nat) {a i ci k b : Nat} (hdg : decode y.2.1 pc = .ok (.getfield i, 3)) (hp : pc + 3 = pc') (hf : FL y.1.cls i ci k) (ho : okO a ci k = true) (hr : rs a k = b + 1) (kk : J l g d y pc' ls (rf g b :: st) m Q) : J l g d y pc ls (rf g a :: st) m Q :=
  jg_get pc' hdg hp hf ho (by unfold fv; rw [hr]) kk
theorem jg_put (pc' : Nat) {a i ci k : Nat} {ty : FieldType} {v : Int32} (hdg : decode y.2.1 pc = .ok (.putfield i, 3)) (hp : pc + 3 = pc') (hf : FP y.1.cls i ci k ty) (ho : okO a ci k = true) (hr : rs a k = 0) (hn : narrow ty (.int v) = .int v) (hfit : fits ty (.int v) = true) (kk : J l g d y pc' ls st (up2 m a k v) Q) : J l g d y pc ls (.int v :: rf g a :: st) m Q := by
  intro p e s mi args below meth c H locs la C R S L
  subst hp
  obtain ⟨q, h1, h2, h3, h4, h5⟩ := hf
  obtain ⟨o1, o2, o3, o4⟩ := okO_s ho
  obtain ⟨c1, ⟨ty0, c2⟩, c3⟩ := clsOK h1
  refine va_put (D := gD g) (cl := cls) (tys := tys g) (ws := Wd g m) (A := Fz g) (H0 := g.1.heap) (C := q.1) (T := q.2.1) (N := q.2.2) (ci := ci) (fs := (List.range (ln a)).map (fv g m a)) C.1 C.2.1 C.2.2.2.2.2.1 c1 ty0 c2 c3 C.2.2.2.2.1 (C.2.2.2.2.2.2.2).K R.1 (Wd_D C.2.2.2.2.2.2.2.1 m) (R.S S) a (by rw [Wd_get g m o1, cell_obj o2, o3]) h1 k h2 (C.2.2.2.2.2.1 _ h3) (fun _ h => h) h4 h5 hn hfit (by simp; exact o4) hdg (fun H1 locs1 p1 _ s1 => ?_)
  have e2 : (Wd g m).set a (ga g a, .inr (ci, ((List.range (ln a)).map (fv g m a)).set k (.int v))) = Wd g (up2 m a k v) := Wd_set o1 (by rw [cell_obj o2, o3, map_up hr o4])
  have e3 : va_P (gD g) cls (Wd g (up2 m a k v)) H1 := by rw [← e2]; exact p1
  obtain ⟨R1, S1⟩ := RH.of e3 s1
  exact kk p e s mi args below meth c H1 locs1 la C R1 S1 L
theorem j_putI (pc' : Nat) {a i ci k : Nat} {v : Int32} (hdg : decode y.2.1 pc = .ok (.putfield i, 3)) (hp : pc + 3 = pc') (hf : FP y.1.cls i ci k .int) (ho : okO a ci k = true) (hr : rs a k = 0) (kk : J l g d y pc' ls st (up2 m a k v) Q) : J l g d y pc ls (.int v :: rf g a :: st) m Q := jg_put pc' hdg hp hf ho hr rfl rfl kk
theorem nar_z {v : Int32} (h : v = 0 ∨ v = 1) : narrow .boolean (.int v) = .int v := by rcases h with rfl | rfl <;> rfl
theorem fit_z {v : Int32} (h : v = 0 ∨ v = 1) : fits .boolean (.int v) = true := by rcases h with rfl | rfl <;> rfl
theorem j_putZ (pc' : Nat) {a i ci k : Nat} {v : Int32} (hz : v = 0 ∨ v = 1) (hdg : decode y.2.1 pc = .ok (.putfield i, 3)) (hp : pc + 3 = pc') (hf : FP y.1.cls i ci k .boolean) (ho : okO a ci k = true) (hr : rs a k = 0) (kk : J l g d y pc' ls st (up2 m a k v) Q) : J l g d y pc ls (.int v :: rf g a :: st) m Q := jg_put pc' hdg hp hf ho hr (nar_z hz) (fit_z hz) kk
theorem nI_cl {x : Int32} {i n : Nat} (hx : x = nI i) (hi : i < n) (hn : n < 2 ^ 31) : vp_in x n ∧ x.toNatClampNeg = i := by
  subst hx
  exact ⟨vp_in_nI hi hn, nI_clamp (Nat.lt_trans hi hn)⟩
theorem ln_lt (a : Nat) : ln a < 2 ^ 31 := by
  have h : ∀ q ∈ plan, q.2.2 < 1000 := by decide +kernel
  unfold ln
  by_cases ha : a < plan.length
  · have := h _ (List.getElem_mem ha)
    rw [List.getD_eq_getElem?_getD, List.getElem?_eq_getElem ha]
    show plan[a].2.2 < _
    omega
  · rw [List.getD_eq_getElem?_getD, List.getElem?_eq_none (by omega)]
    decide
theorem j_iald (pc' : Nat) (i : Nat) {a : Nat} {x : Int32} (hx : x = nI i) (hi : i < ln a) (hdg : decode y.2.1 pc = .ok (.iaload, 1)) (hp : pc + 1 = pc') (ho : okA a = true) (kk : J l g d y pc' ls (.int (m a i) :: st) m Q) : J l g d y pc ls (.int x :: rf g a :: st) m Q := by
  intro p e s mi args below meth c H locs la C R S L
  subst hp
  obtain ⟨o1, o2⟩ := okA_s ho
  obtain ⟨c1, c2⟩ := nI_cl hx hi (ln_lt a)
  refine va_iald (D := gD g) (cl := cls) (tys := tys g) (ws := Wd g m) (n := ln a) (f := m a) C.1 C.2.1 (C.2.2.2.2.2.2.2).K R.1 a 0 (by rw [Wd_get g m o1, cell_arr o2]) rfl c1 hdg ?_
  rw [c2]
  exact kk p e s mi args below meth c H locs la C R S L
theorem up2_row (m : Mem) (a i : Nat) (v : Int32) : upd (m a) i v = up2 m a i v a := by
  funext j
  by_cases h : j = i
  · subst h
    rw [pk_us]
    unfold up2
    rw [if_pos ⟨rfl, rfl⟩]
  · rw [pk_un h]
    unfold up2
    rw [if_neg (fun q => h q.2)]
theorem j_iast (pc' : Nat) (i : Nat) {a : Nat} {x v : Int32} (hx : x = nI i) (hi : i < ln a) (hdg : decode y.2.1 pc = .ok (.iastore, 1)) (hp : pc + 1 = pc') (ho : okA a = true) (kk : J l g d y pc' ls st (up2 m a i v) Q) : J l g d y pc ls (.int v :: .int x :: rf g a :: st) m Q := by
  intro p e s mi args below meth c H locs la C R S L
  subst hp
  obtain ⟨o1, o2⟩ := okA_s ho
  obtain ⟨c1, c2⟩ := nI_cl hx hi (ln_lt a)
  refine va_iast (D := gD g) (cl := cls) (tys := tys g) (ws := Wd g m) (A := Fz g) (H0 := g.1.heap) (n := ln a) (f := m a) C.1 C.2.1 (C.2.2.2.2.2.2.2).K R.1 (Wd_D C.2.2.2.2.2.2.2.1 m) (R.S S) a 0 (by rw [Wd_get g m o1, cell_arr o2]) rfl c1 hdg (fun H1 locs1 p1 _ s1 => ?_)
  rw [c2, up2_row] at p1
  have e2 : (Wd g m).set a (ga g a, .inl (gc g 0, ln a, .inl (up2 m a i v a))) = Wd g (up2 m a i v) := Wd_set o1 (by rw [cell_arr o2])
  have e3 : va_P (gD g) cls (Wd g (up2 m a i v)) H1 := by rw [← e2]; exact p1
  obtain ⟨R1, S1⟩ := RH.of e3 s1
  exact kk p e s mi args below meth c H1 locs1 la C R1 S1 L
theorem j_alen (pc' : Nat) {a : Nat} (hdg : decode y.2.1 pc = .ok (.arraylength, 1)) (hp : pc + 1 = pc') (ho : okA a = true) (kk : J l g d y pc' ls (.int (nI (ln a)) :: st) m Q) : J l g d y pc ls (rf g a :: st) m Q := by
  intro p e s mi args below meth c H locs la C R S L
  subst hp
  obtain ⟨o1, o2⟩ := okA_s ho
  exact va_alen (D := gD g) (cl := cls) (tys := tys g) (ws := Wd g m) (x := (ln a, .inl (m a))) C.1 C.2.1 (C.2.2.2.2.2.2.2).K R.1 a 0 (by rw [Wd_get g m o1, cell_arr o2]) rfl rfl hdg (kk p e s mi args below meth c H locs la C R S L)
theorem j_alen1 (pc' : Nat) (hdg : decode y.2.1 pc = .ok (.arraylength, 1)) (hp : pc + 1 = pc') (kk : J l g d y pc' ls (.int 7 :: st) m Q) : J l g d y pc ls (rf g 1 :: st) m Q := by
  intro p e s mi args below meth c H locs la C R S L
  subst hp
  exact va_alen (D := gD g) (cl := cls) (tys := tys g) (ws := Wd g m) (x := (ln 1, .inr (.inr (.inr (.inr (fun k => some (ga g (rs 1 k - 1)))))))) C.1 C.2.1 (C.2.2.2.2.2.2.2).K R.1 1 1 (by rw [Wd_get g m (by decide), cell_ref rfl]; rfl) rfl rfl hdg (kk p e s mi args below meth c H locs la C R S L)
theorem j_aald (pc' : Nat) (i : Nat) {a : Nat} {x : Int32} (hx : x = nI i) (hi : i < ln a) (hdg : decode y.2.1 pc = .ok (.aaload, 1)) (hp : pc + 1 = pc') (ho : a = 1 ∨ a = 60) (kk : J l g d y pc' ls (rf g (rs a i - 1) :: st) m Q) : J l g d y pc ls (.int x :: rf g a :: st) m Q := by
  intro p e s mi args below meth c H locs la C R S L
  subst hp
  obtain ⟨c1, c2⟩ := nI_cl hx hi (ln_lt a)
  have hlt : x.toNatClampNeg < ln a := by rw [c2]; exact hi
  have kk' := kk p e s mi args below meth c H locs la C R S L
  have hK := (C.2.2.2.2.2.2.2).K
  rcases ho with rfl | rfl
  · have h0 := R.1 1 _ (Wd_get g m (by decide))
    rw [cell_ref rfl] at h0
    refine W.aald (v := rf g (rs 1 i - 1)) (ty := .object RX5) C.1 C.2.1 h0 ((hK.2 1 _ rfl).1 _ (fun j => va_rf (some (ga g (rs 1 j - 1))))) rfl (fun q => by cases q) (by show ¬ (x < 0 ∨ (arrV _ _ _).slots.size ≤ _); rw [arrV_size]; exact c1) (by show (arrV _ _ _).slots[_]? = _; rw [arrV_read _ _ hlt, c2]; rfl) rfl rfl hdg kk'
  · have h0 := R.1 60 _ (Wd_get g m (by decide))
    rw [cell_ref rfl] at h0
    refine W.aald (v := rf g (rs 60 i - 1)) (ty := .array .int) C.1 C.2.1 h0 ((hK.2 2 _ rfl).1 _ (fun j => va_rf (some (ga g (rs 60 j - 1))))) rfl (fun q => by cases q) (by show ¬ (x < 0 ∨ (arrV _ _ _).slots.size ≤ _); rw [arrV_size]; exact c1) (by show (arrV _ _ _).slots[_]? = _; rw [arrV_read _ _ hlt, c2]; rfl) rfl rfl hdg kk'
theorem j_iret {v : Int32} (hdg : decode y.2.1 pc = .ok (.ireturn, 1)) (hr : y.2.2.2 = some .int) (hq : Q (some (.int v)) m) : J l g d y pc ls [.int v] m Q := by
  intro p e s mi args below meth c H locs la C R S L
  exact W.iret (hlocks := C.2.2.2.2.2.2.1) C.1 C.2.1 (C.2.2.1.trans hr) (fun t ht hW => ⟨_, m, rfl, hq, by rw [ht]; exact R, (C.2.2.2.2.2.2.2).alike hW.alike⟩) S hdg
theorem j_zret {v : Int32} (hz : v = 0 ∨ v = 1) (hdg : decode y.2.1 pc = .ok (.ireturn, 1)) (hr : y.2.2.2 = some .boolean) (hq : Q (some (.int v)) m) : J l g d y pc ls [.int v] m Q := by
  intro p e s mi args below meth c H locs la C R S L
  exact W.zret (hlocks := C.2.2.2.2.2.2.1) C.1 C.2.1 (C.2.2.1.trans hr) (nar_z hz) (fun t ht hW => ⟨_, m, rfl, hq, by rw [ht]; exact R, (C.2.2.2.2.2.2.2).alike hW.alike⟩) S hdg
theorem j_vret (hdg : decode y.2.1 pc = .ok (.return_, 1)) (hr : y.2.2.2 = none) (hq : Q none m) : J l g d y pc ls [] m Q := by
  intro p e s mi args below meth c H locs la C R S L
  exact W.vret (hlocks := C.2.2.2.2.2.2.1) C.1 C.2.1 (C.2.2.1.trans hr) (fun t ht hW => ⟨_, m, rfl, hq, by rw [ht]; exact R, (C.2.2.2.2.2.2.2).alike hW.alike⟩) S hdg
theorem j_aret {a : Nat} {n : String} (hdg : decode y.2.1 pc = .ok (.areturn, 1)) (hr : y.2.2.2 = some (.object n)) (hq : Q (some (rf g a)) m) : J l g d y pc ls [rf g a] m Q := by
  intro p e s mi args below meth c H locs la C R S L
  exact W.aret (hlocks := C.2.2.2.2.2.2.1) C.1 C.2.1 (C.2.2.1.trans hr) (Or.inl ⟨n, rfl⟩) (Or.inr ⟨_, rfl⟩) (fun t ht hW => ⟨_, m, rfl, hq, by rw [ht]; exact R, (C.2.2.2.2.2.2.2).alike hW.alike⟩) S hdg
theorem JM_of {as : List Value} (hy : plainName y.1.cls = true) (hn : Nat.ble (lg_sl as).length y.2.2.1 = true) (hl : lvl 0 ls = lv_args 0 as) (kk : J l g d y 0 ls [] m Q) : JM l g d y as m Q := by
  refine Met.ofW (cc := y.2.1) (maxL := y.2.2.1) (ret := y.2.2.2) hy rfl ?_
  intro p e s mi args below meth c s₁ B hml hv
  obtain ⟨rfl, hR, hG⟩ := hv
  have h0 := lv_entry as (n := y.2.2.1) (Nat.le_of_ble_eq_true hn)
  rw [← hl] at h0
  rw [lg_entry_eq]
  have hts := atoms_spec (ws := .code y.1 y.2.1 y.2.2.1 y.2.2.2 :: lw_gd) B.pre
  exact kk p e s mi _ below meth c s.heap [] _ ⟨B.exec, B.bytes, B.returns, hml, findClass_of_methodNamed B.named, fun w h => hts w (List.mem_cons_of_mem _ h), B.notSynchronized, hG⟩ hR (fun q h => by cases h) h0
theorem JM.mono {as : List Value} {Q' : Option Value → Mem → Prop} (h : JM l g d y as m Q') (hq : ∀ r m', Q' r m' → Q r m') : JM l g d y as m Q := by
  intro p e ha hc hk s mi args below hf hsp hP hT
  obtain ⟨k, o, h1, h2, h3, ⟨r, m', q1, q2, q3⟩, h4⟩ := h p e ha hc hk s mi args below hf hsp hP hT
  exact ⟨k, o, h1, h2, h3, ⟨r, m', q1, hq r m' q2, q3⟩, h4⟩
theorem blind (as : List Value) (m : Mem) : FrameBlind (va_Pc as (fun U => RH g m U.heap ∧ GV g U)) := fun _ _ _ _ h => h
/-- behind a call -/
theorem j_run {as rest : List Value} {Q' : Option Value → Mem → Prop} (hr : ∀ (p : Program) (e : Env) (s : State) (mi : MethodId) (args : Array Value) (below : List Frame) (meth : Method) (c : Code) (H : Heap) (locs : List Loc) (la : Array Slot),
    Cx g y p s mi args meth c → RH g m H → (∀ q ∈ locs, Fz g q.base) → lv_has la y.2.2.1 (lvl 0 ls) → va_Run p l e (rmOf d) s mi args below meth c H locs 0 0 0 0 (F0 mi pc la st) rest (JQ g Q' as.toArray) (Fz g))
    (kk : ∀ r m', Q' r m' → J l g d y (pc + 3) ls (r.toList ++ rest) m' Q) : J l g d y pc ls st m Q := by
  intro p e s mi args below meth c H locs la C R S L T hT X
  obtain ⟨v, st₀, t, T', LL, h0, X', hL, e1, e2, ⟨r, m', hv, hq, hR, hG⟩, stp⟩ := hr p e s mi args below meth c H locs la C R S L T hT X
  cases hv
  obtain ⟨t2, a1, b1⟩ := kk v m' hq p e s mi args below meth c T'.heap (locs ++ LL) la C (by rw [e1]; exact hR) (fun q hq => (List.mem_append.mp hq).elim (S q) (hL q)) L T' rfl X'
  exact ⟨t2, stp t2 a1, b1⟩
end JH
/-- what the tables say of a method -/
def MI (y : MD) (n : Nat) : Prop := Cond.code y.1 y.2.1 y.2.2.1 y.2.2.2 ∈ lw_gd ∧ Cond.initialized y.1.cls ∈ lw_gd ∧ (y.1.cls ≠ "java/lang/invoke/MethodHandle" ∧ y.1.cls ≠ "java/lang/invoke/VarHandle" ∧ (parseMethodDescriptor y.1.desc).map (fun d => d.parameters.length) = some n) ∧ Nat.ble y.2.2.1 21 = true
def CSt (own : String) (i : Nat) (y : MD) (n : Nat) : Prop := MI y n ∧ Cond.methodLink own i y.1 ∈ lw_gd ∧ Cond.static y.1 ∈ lw_gd
def CVi (own : String) (i : Nat) (y : MD) (n : Nat) : Prop := MI y n ∧ Cond.methodLink own i y.1 ∈ lw_gd ∧ Cond.instanceMethod y.1 ∈ lw_gd ∧ Cond.selects y.1.cls y.1 y.1 ∈ lw_gd
/-- a method chosen by the class C of the object: x is named, y runs -/
def CUi (own : String) (i : Nat) (C : String) (x : MethodName) (owner : String) (y : MD) (n : Nat) : Prop := MI y n ∧ Cond.methodLink own i x ∈ lw_gd ∧ Cond.sameMethod x.cls owner x.name x.desc ∈ lw_gd ∧ Cond.instanceMethod ⟨owner, x.name, x.desc⟩ ∈ lw_gd ∧ (∃ b0 m0 r0, Cond.code ⟨owner, x.name, x.desc⟩ b0 m0 r0 ∈ lw_gd) ∧ Cond.selects C x y.1 ∈ lw_gd ∧ Cond.instanceMethod y.1 ∈ lw_gd ∧ (owner ≠ "java/lang/invoke/MethodHandle" ∧ owner ≠ "java/lang/invoke/VarHandle") ∧ (parseMethodDescriptor x.desc).map (fun d => d.parameters.length) = some n
def CSu (own : String) (i : Nat) (y : MD) (n : Nat) : Prop := MI y n ∧ Cond.methodLink own i y.1 ∈ lw_gd ∧ Cond.sameMethod y.1.cls y.1.cls y.1.name y.1.desc ∈ lw_gd ∧ Cond.superclass own y.1.cls ∈ lw_gd ∧ Cond.instanceMethod y.1 ∈ lw_gd ∧ y.1.name ≠ "<init>"
theorem gd_cons {y : MD} {n : Nat} (h : MI y n) : GoodIn lw_gd (Cond.code y.1 y.2.1 y.2.2.1 y.2.2.2 :: lw_gd) := fun w hw => (List.mem_cons.mp hw).elim (fun e => by subst e; exact ⟨h.1, good_of_word (List.mem_filter.mp h.1).2⟩) (fun h => gd_in w h)
theorem rm_fit {y : MD} {n d d' : Nat} (h : MI y n) (hd : d' < d) : (rmOf d').frames + 1 ≤ (rmOf d).frames ∧ 8 + (y.2.2.1 + 11) + (rmOf d').locals ≤ (rmOf d).locals := by
  have := Nat.le_of_ble_eq_true h.2.2.2
  show d' + 1 ≤ d ∧ 8 + (y.2.2.1 + 11) + 40 * d' ≤ 40 * d
  omega
section JC
variable {l : Launch} {g : Gv} {d d' : Nat} {y y' : MD} {pc : Nat} {ls : List (Option Value)} {st rest As : List Value} {m : Mem} {Q Q' : Option Value → Mem → Prop} {i a : Nat}
theorem jg_static (hdg : decode y.2.1 pc = .ok (.invokestatic i, 3)) (hd : d' < d) (hc : CSt y.1.cls i y' As.length) (hst : st = As.reverse ++ rest) (hw : Nat.ble (rest.map fun v => v.category).sum 8 = true) (hM : JM l g d' y' As m Q') (kk : ∀ r m', Q' r m' → J l g d y (pc + 3) ls (r.toList ++ rest) m' Q) : J l g d y pc ls st m Q := by
  refine j_run (as := As) (rest := rest) (Q' := Q') (fun p e s mi args below meth c H locs la C R S L => ?_) kk
  have hts := C.2.2.2.2.2.1
  exact va_runS (n := As.length) (Ts := lw_gd) (As := As) ⟨C.1, C.2.1, C.2.2.2.1, C.2.2.2.2.1, hts⟩ hM ⟨callB_of As.length hts (gd_cons hc.1) rfl rfl rfl (hts _ hc.1.2.1) (hts _ hc.2.1) hc.1.2.2.1 (rm_fit hc.1 hd), hts _ hc.2.2⟩ ⟨blind As m, fun U hU hW => ⟨rfl, by rw [hU]; exact R, (C.2.2.2.2.2.2.2).alike hW.alike⟩⟩ rfl rfl L.1 hst (lv_room (Nat.le_of_ble_eq_true hw)) hdg ⟨Nat.le_refl _, Nat.le_refl _⟩
theorem recv {p : Program} {s : State} {mi : MethodId} {args : Array Value} {meth : Method} {c : Code} {H : Heap} (C : Cx g y p s mi args meth c) (R : RH g m H) {ci : Nat} {q : vw_C} (ho : okC a ci = true) (hq : cls[ci]? = some q) : ∃ cellB : Cell, H[ga g a]? = some cellB ∧ cellB.vm.isStatics = false ∧ s.vm.findClass q.1 = some cellB.cls := by
  simp only [okC, Bool.and_eq_true] at ho
  exact va_recv (C.2.2.2.2.2.2.2).K R.1 (ci := ci) (q0 := a) hq (by rw [Wd_get g m (Nat.le_of_ble_eq_true ho.1), cell_obj (Nat.eq_of_beq_eq_true ho.2.1), Nat.eq_of_beq_eq_true ho.2.2])
theorem jg_virtual {ci : Nat} {q : vw_C} (hdg : decode y.2.1 pc = .ok (.invokevirtual i, 3)) (hd : d' < d) (hc : CVi y.1.cls i y' As.length) (ho : okC a ci = true) (hq : cls[ci]? = some q) (hqy : q.1 = y'.1.cls) (hst : st = As.reverse ++ rf g a :: rest) (hw : Nat.ble (rest.map fun v => v.category).sum 8 = true) (hM : JM l g d' y' (rf g a :: As) m Q') (kk : ∀ r m', Q' r m' → J l g d y (pc + 3) ls (r.toList ++ rest) m' Q) : J l g d y pc ls st m Q := by
  refine j_run (as := rf g a :: As) (rest := rest) (Q' := Q') (fun p e s mi args below meth c H locs la C R S L => ?_) kk
  have hts := C.2.2.2.2.2.1
  exact va_runV (n := As.length) (Ts := lw_gd) (C := y'.1.cls) (b := ga g a) (As := As) ⟨C.1, C.2.1, C.2.2.2.1, C.2.2.2.2.1, hts⟩ hM ⟨callB_of As.length hts (gd_cons hc.1) rfl rfl rfl (hts _ hc.1.2.1) (hts _ hc.2.1) hc.1.2.2.1 (rm_fit hc.1 hd), hts _ hc.2.2.1, hts _ hc.2.2.2⟩ ⟨blind _ m, by rw [← hqy]; exact recv C R ho hq, fun U hU hW => ⟨rfl, by rw [hU]; exact R, (C.2.2.2.2.2.2.2).alike hW.alike⟩⟩ rfl rfl L.1 hst (lv_room (Nat.le_of_ble_eq_true hw)) hdg ⟨Nat.le_refl _, Nat.le_refl _⟩
theorem jg_dyn {ci : Nat} {q : vw_C} {x : MethodName} {owner : String} (hdg : decode y.2.1 pc = .ok (.invokevirtual i, 3)) (hd : d' < d) (hq : cls[ci]? = some q) (hc : CUi y.1.cls i q.1 x owner y' As.length) (ho : okC a ci = true) (hst : st = As.reverse ++ rf g a :: rest) (hw : Nat.ble (rest.map fun v => v.category).sum 8 = true) (hM : JM l g d' y' (rf g a :: As) m Q') (kk : ∀ r m', Q' r m' → J l g d y (pc + 3) ls (r.toList ++ rest) m' Q) : J l g d y pc ls st m Q := by
  refine j_run (as := rf g a :: As) (rest := rest) (Q' := Q') (fun p e s mi args below meth c H locs la C R S L => ?_) kk
  have hts := C.2.2.2.2.2.1
  obtain ⟨hm, c1, c2, c3, ⟨b0, m0, r0, c4⟩, c5, c6, c7, c8⟩ := hc
  exact va_runU (n := As.length) (Ts := lw_gd) (C := q.1) (owner := owner) (b := ga g a) (As := As) ⟨C.1, C.2.1, C.2.2.2.1, C.2.2.2.2.1, hts⟩ hM ⟨⟨rfl, rfl, (rm_fit hm hd).1, (rm_fit hm hd).2, pay_in hts (gd_cons hm), List.mem_cons_self⟩, hts _ hm.1, hts _ hm.2.1, c7, fun sig h => by rw [h] at c8; exact (Option.some.inj c8).symm, hts _ c1, hts _ c2, va_Decl.of (hts _ c3) (hts _ c4), hts _ c5, hts _ c6⟩ ⟨blind _ m, recv C R ho hq, fun U hU hW => ⟨rfl, by rw [hU]; exact R, (C.2.2.2.2.2.2.2).alike hW.alike⟩⟩ rfl rfl L.1 hst (lv_room (Nat.le_of_ble_eq_true hw)) hdg ⟨Nat.le_refl _, Nat.le_refl _⟩
theorem jg_super {ci : Nat} {q : vw_C} (hdg : decode y.2.1 pc = .ok (.invokespecial i, 3)) (hd : d' < d) (hq : cls[ci]? = some q) (hc : CSu y.1.cls i y' As.length) (ho : okC a ci = true) (hst : st = As.reverse ++ rf g a :: rest) (hw : Nat.ble (rest.map fun v => v.category).sum 8 = true) (hM : JM l g d' y' (rf g a :: As) m Q') (kk : ∀ r m', Q' r m' → J l g d y (pc + 3) ls (r.toList ++ rest) m' Q) : J l g d y pc ls st m Q := by
  refine j_run (as := rf g a :: As) (rest := rest) (Q' := Q') (fun p e s mi args below meth c H locs la C R S L => ?_) kk
  have hts := C.2.2.2.2.2.1
  obtain ⟨hm, c1, c2, c3, c4, c5⟩ := hc
  exact va_runSU (n := As.length) (Ts := lw_gd) (C := q.1) (b := ga g a) (As := As) ((C.2.2.2.2.2.2.2).K.1 ci q hq).2 ⟨C.1, C.2.1, C.2.2.2.1, C.2.2.2.2.1, hts⟩ hM ⟨⟨rfl, rfl, (rm_fit hm hd).1, (rm_fit hm hd).2, pay_in hts (gd_cons hm), List.mem_cons_self⟩, hts _ c1, hts _ c2, hts _ c3, hts _ c4, hts _ hm.2.1, hts _ hm.1, c5, fun sig h => by have h2 := hm.2.2.1.2.2; rw [h] at h2; exact (Option.some.inj h2).symm⟩ ⟨blind _ m, recv C R ho hq, fun U hU hW => ⟨rfl, by rw [hU]; exact R, (C.2.2.2.2.2.2.2).alike hW.alike⟩⟩ rfl rfl L.1 hst (lv_room (Nat.le_of_ble_eq_true hw)) hdg ⟨Nat.le_refl _, Nat.le_refl _⟩
end JC
