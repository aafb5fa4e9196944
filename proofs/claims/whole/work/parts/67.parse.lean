/-! what reading a TEXT does, by its grammar: place, code so far, whether all is well -/
abbrev PT : Type := Nat × List Int32 × Bool
def sgF (t : Nat → Int32) (n p : Nat) : Int32 := if p < n then t p else -1
def lvO (c : Int32) : Int32 := if c = 37 then 4 else if c = 38 then 1 else if c = 42 then 4 else if c = 43 then 3 else if c = 45 then 3 else if c = 47 then 4 else if c = 60 then 2 else if c = 61 then 2 else if c = 62 then 2 else if c = 124 then 0 else -1
abbrev dgP (c : Int32) : Prop := 48 ≤ c ∧ c ≤ 57
def nmF (u : Nat) (c : Int32) : Int32 := if c = stB u 0 then 0 else if c = stB u 1 then 1 else if c = stB u 2 then 2 else -1
def wrF (x : Int32) (s : PT) : PT := if s.2.2 = true then (s.1, s.2.1 ++ [x], true) else s
def avF (s : PT) : PT := (s.1 + 1, s.2.1, s.2.2)
def flF (s : PT) : PT := (s.1, s.2.1, false)
def dgF (t : Nat → Int32) (n : Nat) : Nat → Nat → Nat → Nat × Nat
  | 0, p, v => (p, v)
  | k + 1, p, v => if dgP (sgF t n p) then dgF t n k (p + 1) (10 * v + ((sgF t n p).toNatClampNeg - 48)) else (p, v)
def nuF (t : Nat → Int32) (n : Nat) (s : PT) : PT := wrF (nI (dgF t n 4 s.1 0).2) ((dgF t n 4 s.1 0).1, s.2.1, s.2.2)
def clF (t : Nat → Int32) (n : Nat) (s : PT) : PT := if s.2.2 = true ∧ sgF t n s.1 = 41 then avF s else flF s
def ptF (t : Nat → Int32) (n u : Nat) (op : Bool) (fb fl : PT → PT) (s : PT) : PT :=
  if dgP (sgF t n s.1) then nuF t n s
  else if 0 ≤ nmF u (sgF t n s.1) then wrF (10000 + nmF u (sgF t n s.1)) (avF s)
  else if sgF t n s.1 = 33 ∧ op = true then wrF 20033 (fb (avF s))
  else if sgF t n s.1 = 40 ∧ op = true then clF t n (fl (avF s))
  else flF s
def lpF (t : Nat → Int32) (n : Nat) (lv : Int32) (sub : PT → PT) : Nat → PT → PT
  | 0, s => s
  | f + 1, s => if s.2.2 = true ∧ lvO (sgF t n s.1) = lv then lpF t n lv sub f (wrF (20000 + sgF t n s.1) (sub (avF s))) else s
def fuL (j : Nat) : Nat := if j = 2 then 1 else 50
def leF (t : Nat → Int32) (n : Nat) (pf : PT → PT) : Nat → PT → PT
  | 0, s => pf s
  | j + 1, s => lpF t n (nI (4 - j)) (leF t n pf j) (fuL j) (leF t n pf j s)
def paF (t : Nat → Int32) (n u : Nat) : Nat → PT → PT
  | 0, s => ptF t n u false id id s
  | r + 1, s => ptF t n u true (paF t n u r) (leF t n (paF t n u r) 5) s
theorem sg_lt {t : Nat → Int32} {n p : Nat} (h : sgF t n p ≠ -1) : p < n := by
  unfold sgF at h
  by_cases q : p < n
  · exact q
  · rw [if_neg q] at h; exact absurd rfl h
def GB (n : Nat) (F : PT → PT) : Prop := ∀ s : PT, s.2.2 = true → s.1 ≤ n → s.1 ≤ (F s).1 ∧ (F s).1 ≤ n ∧ (F s).2.1.length + s.1 ≤ (F s).1 + s.2.1.length
theorem wr_1 (x : Int32) (s : PT) : (wrF x s).1 = s.1 := by unfold wrF; split <;> rfl
theorem wr_ok (x : Int32) (s : PT) : (wrF x s).2.2 = s.2.2 := by
  unfold wrF
  by_cases q : s.2.2 = true
  · rw [if_pos q, q]
  · rw [if_neg q]
theorem wr_len (x : Int32) (s : PT) : (wrF x s).2.1.length ≤ s.2.1.length + 1 := by
  unfold wrF
  split
  · simp
  · omega
theorem wr_t {x : Int32} {s : PT} (h : s.2.2 = true) : (wrF x s).2.1 = s.2.1 ++ [x] := by unfold wrF; rw [if_pos h]
theorem dg_le (t : Nat → Int32) (n : Nat) : ∀ (k p v : Nat), p ≤ n → p ≤ (dgF t n k p v).1 ∧ (dgF t n k p v).1 ≤ n
  | 0, p, v, h => ⟨Nat.le_refl _, h⟩
  | k + 1, p, v, h => by
    unfold dgF
    by_cases q : dgP (sgF t n p)
    · rw [if_pos q]
      have hp := sg_lt (t := t) (n := n) (p := p) (fun z => by rw [z] at q; exact absurd q.1 (by decide))
      have := dg_le t n k (p + 1) (10 * v + ((sgF t n p).toNatClampNeg - 48)) hp
      exact ⟨by omega, this.2⟩
    · rw [if_neg q]; exact ⟨Nat.le_refl _, h⟩
theorem dg_lt {t : Nat → Int32} {n k p v : Nat} (h : dgP (sgF t n p)) : p + 1 ≤ (dgF t n (k + 1) p v).1 := by
  have hp := sg_lt (t := t) (n := n) (p := p) (fun z => by rw [z] at h; exact absurd h.1 (by decide))
  unfold dgF
  rw [if_pos h]
  exact (dg_le t n k (p + 1) _ hp).1
theorem dg_c {c : Int32} (h : dgP c) : ∃ b : Nat, 48 ≤ b ∧ b ≤ 57 ∧ c = nI b := by
  obtain ⟨b, b1, rfl⟩ := nI_of (Int32.not_lt.mpr (Int32.le_trans (by decide) h.1))
  have h1 := (nI_leI (a := 48) (b := b) (by omega) b1).mp h.1
  have h2 := (nI_leI (a := b) (b := 57) b1 (by omega)).mp h.2
  exact ⟨b, h1, h2, rfl⟩
theorem dg_v (t : Nat → Int32) (n : Nat) : ∀ (k p v : Nat), (dgF t n k p v).2 + 1 ≤ (v + 1) * 10 ^ k
  | 0, p, v => by unfold dgF; omega
  | k + 1, p, v => by
    unfold dgF
    have e : (v + 1) * 10 ^ (k + 1) = (10 * (v + 1)) * 10 ^ k := by rw [Nat.pow_succ, Nat.mul_comm 10 (v + 1), Nat.mul_assoc, Nat.mul_comm 10]
    have p1 : 0 < 10 ^ k := Nat.pow_pos (by decide)
    by_cases q : dgP (sgF t n p)
    · rw [if_pos q]
      obtain ⟨b, b1, b2, eb⟩ := dg_c q
      refine Nat.le_trans (dg_v t n k (p + 1) _) ?_
      rw [e]
      refine Nat.mul_le_mul_right _ ?_
      rw [eb, nI_clamp (by omega)]
      omega
    · rw [if_neg q]
      show v + 1 ≤ _
      rw [e]
      exact Nat.le_trans (by omega) (Nat.le_mul_of_pos_right _ p1)
theorem GB_nu {t : Nat → Int32} {n : Nat} {s : PT} (hd : dgP (sgF t n s.1)) (h2 : s.1 ≤ n) : s.1 ≤ (nuF t n s).1 ∧ (nuF t n s).1 ≤ n ∧ (nuF t n s).2.1.length + s.1 ≤ (nuF t n s).1 + s.2.1.length := by
  have a := dg_le t n 4 s.1 0 h2
  have b : s.1 + 1 ≤ (dgF t n 4 s.1 0).1 := dg_lt (k := 3) (v := 0) hd
  have c := wr_len (nI (dgF t n 4 s.1 0).2) ((dgF t n 4 s.1 0).1, s.2.1, s.2.2)
  have e := wr_1 (nI (dgF t n 4 s.1 0).2) ((dgF t n 4 s.1 0).1, s.2.1, s.2.2)
  have c : (nuF t n s).2.1.length ≤ s.2.1.length + 1 := c
  have e : (nuF t n s).1 = (dgF t n 4 s.1 0).1 := e
  rw [e]
  exact ⟨a.1, a.2, by omega⟩
theorem nm_m1 {u : Nat} (hu : u ≤ 1) : nmF u (-1) = -1 := by rcases (show u = 0 ∨ u = 1 by omega) with rfl | rfl <;> decide
theorem GB_cl {t : Nat → Int32} {n : Nat} {s : PT} (h : s.1 ≤ n) : s.1 ≤ (clF t n s).1 ∧ (clF t n s).1 ≤ n ∧ (clF t n s).2.1.length = s.2.1.length := by
  unfold clF
  by_cases q : s.2.2 = true ∧ sgF t n s.1 = 41
  · rw [if_pos q]
    have lt := sg_lt (t := t) (n := n) (p := s.1) (by rw [q.2]; decide)
    exact ⟨by show s.1 ≤ s.1 + 1; omega, lt, rfl⟩
  · rw [if_neg q]; exact ⟨Nat.le_refl _, h, rfl⟩
theorem GB_pt {t : Nat → Int32} {n u : Nat} (hu : u ≤ 1) {op : Bool} {fb fl : PT → PT} (h1 : op = true → GB n fb) (h2 : op = true → GB n fl) : GB n (ptF t n u op fb fl) := by
  intro s ok hp
  unfold ptF
  by_cases q1 : dgP (sgF t n s.1)
  · rw [if_pos q1]; exact GB_nu q1 hp
  · rw [if_neg q1]
    by_cases q2 : 0 ≤ nmF u (sgF t n s.1)
    · rw [if_pos q2]
      have lt := sg_lt (t := t) (n := n) (p := s.1) (fun z => by rw [z, nm_m1 hu] at q2; exact absurd q2 (by decide))
      have a : (wrF (10000 + nmF u (sgF t n s.1)) (avF s)).2.1.length ≤ s.2.1.length + 1 := wr_len (10000 + nmF u (sgF t n s.1)) (avF s)
      have e : (wrF (10000 + nmF u (sgF t n s.1)) (avF s)).1 = s.1 + 1 := wr_1 _ _
      rw [e]
      exact ⟨by omega, lt, by omega⟩
    · rw [if_neg q2]
      by_cases q3 : sgF t n s.1 = 33 ∧ op = true
      · rw [if_pos q3]
        have lt := sg_lt (t := t) (n := n) (p := s.1) (by rw [q3.1]; decide)
        obtain ⟨a, b, c⟩ := h1 q3.2 (avF s) ok lt
        have a : s.1 + 1 ≤ (fb (avF s)).1 := a
        have c : (fb (avF s)).2.1.length + (s.1 + 1) ≤ (fb (avF s)).1 + s.2.1.length := c
        have d := wr_len 20033 (fb (avF s))
        rw [wr_1]
        exact ⟨by omega, b, by omega⟩
      · rw [if_neg q3]
        by_cases q4 : sgF t n s.1 = 40 ∧ op = true
        · rw [if_pos q4]
          have lt := sg_lt (t := t) (n := n) (p := s.1) (by rw [q4.1]; decide)
          obtain ⟨a, b, c⟩ := h2 q4.2 (avF s) ok lt
          have a : s.1 + 1 ≤ (fl (avF s)).1 := a
          have c : (fl (avF s)).2.1.length + (s.1 + 1) ≤ (fl (avF s)).1 + s.2.1.length := c
          obtain ⟨x, y, z⟩ := GB_cl (t := t) (n := n) (s := fl (avF s)) b
          exact ⟨by omega, y, by omega⟩
        · rw [if_neg q4]; exact ⟨Nat.le_refl _, hp, Nat.le_of_eq (Nat.add_comm _ _)⟩
theorem lv_c {c : Int32} {j : Nat} (hj : j ≤ 4) (h : lvO c = nI j) : ∃ k : Nat, 3 ≤ k ∧ k < 256 ∧ k ≠ 33 ∧ c = nI k := by
  have nn : ¬ (-1 : Int32) = nI j := fun q => by
    have z := nI_pos (n := j) (by omega)
    rw [← q] at z
    exact z (by decide)
  unfold lvO at h
  by_cases q1 : c = 37
  · exact ⟨37, by decide, by decide, by decide, q1⟩
  rw [if_neg q1] at h
  by_cases q2 : c = 38
  · exact ⟨38, by decide, by decide, by decide, q2⟩
  rw [if_neg q2] at h
  by_cases q3 : c = 42
  · exact ⟨42, by decide, by decide, by decide, q3⟩
  rw [if_neg q3] at h
  by_cases q4 : c = 43
  · exact ⟨43, by decide, by decide, by decide, q4⟩
  rw [if_neg q4] at h
  by_cases q5 : c = 45
  · exact ⟨45, by decide, by decide, by decide, q5⟩
  rw [if_neg q5] at h
  by_cases q6 : c = 47
  · exact ⟨47, by decide, by decide, by decide, q6⟩
  rw [if_neg q6] at h
  by_cases q7 : c = 60
  · exact ⟨60, by decide, by decide, by decide, q7⟩
  rw [if_neg q7] at h
  by_cases q8 : c = 61
  · exact ⟨61, by decide, by decide, by decide, q8⟩
  rw [if_neg q8] at h
  by_cases q9 : c = 62
  · exact ⟨62, by decide, by decide, by decide, q9⟩
  rw [if_neg q9] at h
  by_cases q10 : c = 124
  · exact ⟨124, by decide, by decide, by decide, q10⟩
  rw [if_neg q10] at h
  exact absurd h nn
theorem lvl_lt {t : Nat → Int32} {n p j : Nat} (hj : j ≤ 4) (h : lvO (sgF t n p) = nI j) : p < n := by
  obtain ⟨k, k1, k2, k3, k4⟩ := lv_c hj h
  refine sg_lt (t := t) (fun q => ?_)
  rw [k4] at q
  have z := nI_pos (n := k) (by omega)
  rw [q] at z
  exact z (by decide)
theorem GB_lp {t : Nat → Int32} {n j : Nat} (hj : j ≤ 4) {sub : PT → PT} (hs : GB n sub) : ∀ (f : Nat) (s : PT), s.1 ≤ n → s.1 ≤ (lpF t n (nI j) sub f s).1 ∧ (lpF t n (nI j) sub f s).1 ≤ n ∧ (lpF t n (nI j) sub f s).2.1.length + s.1 ≤ (lpF t n (nI j) sub f s).1 + s.2.1.length
  | 0, s, h => ⟨Nat.le_refl _, h, Nat.le_of_eq (Nat.add_comm _ _)⟩
  | f + 1, s, h => by
    unfold lpF
    by_cases q : s.2.2 = true ∧ lvO (sgF t n s.1) = nI j
    · rw [if_pos q]
      have lt := lvl_lt hj q.2
      obtain ⟨a, b, c⟩ := hs (avF s) q.1 lt
      have a : s.1 + 1 ≤ (sub (avF s)).1 := a
      have c : (sub (avF s)).2.1.length + (s.1 + 1) ≤ (sub (avF s)).1 + s.2.1.length := c
      have d := wr_len (20000 + sgF t n s.1) (sub (avF s))
      have e := wr_1 (20000 + sgF t n s.1) (sub (avF s))
      obtain ⟨x, y, z⟩ := GB_lp hj hs f (wrF (20000 + sgF t n s.1) (sub (avF s))) (by rw [e]; exact b)
      rw [e] at x z
      exact ⟨by omega, y, by omega⟩
    · rw [if_neg q]; exact ⟨Nat.le_refl _, h, Nat.le_of_eq (Nat.add_comm _ _)⟩
theorem GB_le {t : Nat → Int32} {n : Nat} {pf : PT → PT} (h : GB n pf) : ∀ j, j ≤ 5 → GB n (leF t n pf j)
  | 0, _ => h
  | j + 1, hj => by
    intro s ok hp
    obtain ⟨a, b, c⟩ := GB_le h j (by omega) s ok hp
    obtain ⟨x, y, z⟩ := GB_lp (t := t) (j := 4 - j) (by omega) (GB_le (t := t) h j (by omega)) (fuL j) (leF t n pf j s) b
    show s.1 ≤ (lpF t n (nI (4 - j)) (leF t n pf j) (fuL j) (leF t n pf j s)).1 ∧ _
    exact ⟨by omega, y, by show (lpF t n (nI (4 - j)) (leF t n pf j) (fuL j) (leF t n pf j s)).2.1.length + s.1 ≤ (lpF t n (nI (4 - j)) (leF t n pf j) (fuL j) (leF t n pf j s)).1 + s.2.1.length; omega⟩
theorem GB_pa {t : Nat → Int32} {n u : Nat} (hu : u ≤ 1) : ∀ r, GB n (paF t n u r)
  | 0 => GB_pt hu (fun h => by cases h) (fun h => by cases h)
  | r + 1 => GB_pt hu (fun _ => GB_pa hu r) (fun _ => GB_le (GB_pa hu r) 5 (Nat.le_refl _))
/-! the code that comes of it can be worked out -/
def cdL (L : List Int32) : Nat → Int32 := fun j => L.getD j 0
def wfL (L : List Int32) : Prop := wfC (cdL L) L.length
def dpL (L : List Int32) : Nat := dep (cdL L) L.length
theorem cd_app {L : List Int32} {x : Int32} {j : Nat} (h : j < L.length) : cdL (L ++ [x]) j = cdL L j := by
  unfold cdL
  simp [List.getD, List.getElem?_append_left h]
theorem cd_last {L : List Int32} {x : Int32} : cdL (L ++ [x]) L.length = x := by
  unfold cdL
  simp [List.getD]
theorem wf_app {L : List Int32} {x : Int32} (w : wfL L) (h : tokOK x (dpL L)) : wfL (L ++ [x]) := by
  intro k hk
  have e : (L ++ [x]).length = L.length + 1 := by simp
  rw [e] at hk
  have dc : dep (cdL (L ++ [x])) k = dep (cdL L) k := dep_congr (fun j hj => cd_app (by omega))
  by_cases q : k < L.length
  · rw [cd_app q, dc]; exact w k q
  · have e2 : k = L.length := by omega
    subst e2
    rw [cd_last, dc]
    exact h
theorem dp_app {L : List Int32} {x : Int32} : dpL (L ++ [x]) = if x < 20000 then dpL L + 1 else if x = 20033 then dpL L else dpL L - 1 := by
  have e : (L ++ [x]).length = L.length + 1 := by simp
  unfold dpL
  rw [e]
  have dc : dep (cdL (L ++ [x])) L.length = dep (cdL L) L.length := dep_congr (fun j hj => cd_app hj)
  show (if cdL (L ++ [x]) L.length < 20000 then _ else _) = _
  rw [cd_last, dc]
def GW (F : PT → PT) : Prop := ∀ s : PT, s.2.2 = true → wfL s.2.1 → (F s).2.2 = true → wfL (F s).2.1 ∧ dpL (F s).2.1 = dpL s.2.1 + 1
theorem GW_num {L : List Int32} (w : wfL L) {k : Nat} (hk : k < 10003) : wfL (L ++ [nI k]) ∧ dpL (L ++ [nI k]) = dpL L + 1 := ⟨wf_app w (Or.inl ⟨k, hk, rfl⟩), by rw [dp_app, if_pos (n20 hk)]⟩
theorem GW_nu {t : Nat → Int32} {n : Nat} : GW (nuF t n) := by
  intro s ok w _
  have h := dg_v t n 4 s.1 0
  unfold nuF
  rw [wr_t (show ((dgF t n 4 s.1 0).1, s.2.1, s.2.2).2.2 = true from ok)]
  exact GW_num w (by omega)
theorem nm_k {u : Nat} {c : Int32} (h : 0 ≤ nmF u c) : ∃ k, k < 3 ∧ nmF u c = nI k := by
  unfold nmF at h ⊢
  by_cases q1 : c = stB u 0
  · rw [if_pos q1]; exact ⟨0, by decide, rfl⟩
  rw [if_neg q1] at h ⊢
  by_cases q2 : c = stB u 1
  · rw [if_pos q2]; exact ⟨1, by decide, rfl⟩
  rw [if_neg q2] at h ⊢
  by_cases q3 : c = stB u 2
  · rw [if_pos q3]; exact ⟨2, by decide, rfl⟩
  rw [if_neg q3] at h
  exact absurd h (by decide)
theorem GW_pt {t : Nat → Int32} {n u : Nat} {op : Bool} {fb fl : PT → PT} (h1 : op = true → GW fb) (h2 : op = true → GW fl) : GW (ptF t n u op fb fl) := by
  intro s ok w
  unfold ptF
  by_cases q1 : dgP (sgF t n s.1)
  · rw [if_pos q1]; exact GW_nu s ok w
  · rw [if_neg q1]
    by_cases q2 : 0 ≤ nmF u (sgF t n s.1)
    · rw [if_pos q2]
      intro _
      obtain ⟨k, k1, k2⟩ := nm_k q2
      rw [wr_t (show (avF s).2.2 = true from ok), k2, show (10000 : Int32) + nI k = nI (10000 + k) from nI_add 10000 k]
      exact GW_num w (by omega)
    · rw [if_neg q2]
      by_cases q3 : sgF t n s.1 = 33 ∧ op = true
      · rw [if_pos q3]
        intro o
        rw [wr_ok] at o
        obtain ⟨a, b⟩ := h1 q3.2 (avF s) ok w o
        have b : dpL (fb (avF s)).2.1 = dpL s.2.1 + 1 := b
        rw [wr_t o, dp_app]
        exact ⟨wf_app a (Or.inr (Or.inl ⟨rfl, by omega⟩)), by rw [if_neg (by decide), if_pos rfl]; exact b⟩
      · rw [if_neg q3]
        by_cases q4 : sgF t n s.1 = 40 ∧ op = true
        · rw [if_pos q4]
          intro o
          unfold clF at o ⊢
          by_cases z : (fl (avF s)).2.2 = true ∧ sgF t n (fl (avF s)).1 = 41
          · rw [if_pos z]
            exact h2 q4.2 (avF s) ok w z.1
          · rw [if_neg z] at o; cases o
        · rw [if_neg q4]; intro o; cases o
theorem GW_lp {t : Nat → Int32} {n j : Nat} (hj : j ≤ 4) {sub : PT → PT} (hs : GW sub) : ∀ (f : Nat) (s : PT), wfL s.2.1 → 1 ≤ dpL s.2.1 → (lpF t n (nI j) sub f s).2.2 = true → wfL (lpF t n (nI j) sub f s).2.1 ∧ dpL (lpF t n (nI j) sub f s).2.1 = dpL s.2.1
  | 0, s, w, _, _ => ⟨w, rfl⟩
  | f + 1, s, w, dp, o => by
    unfold lpF at o ⊢
    by_cases q : s.2.2 = true ∧ lvO (sgF t n s.1) = nI j
    · rw [if_pos q] at o ⊢
      obtain ⟨k, k1, k2, k3, k4⟩ := lv_c hj q.2
      have ex : (20000 : Int32) + sgF t n s.1 = nI (20000 + k) := by rw [k4]; exact nI_add 20000 k
      by_cases z : (sub (avF s)).2.2 = true
      · obtain ⟨a, b⟩ := hs (avF s) q.1 w z
        have b : dpL (sub (avF s)).2.1 = dpL s.2.1 + 1 := b
        have wt : wfL (wrF (20000 + sgF t n s.1) (sub (avF s))).2.1 ∧ dpL (wrF (20000 + sgF t n s.1) (sub (avF s))).2.1 = dpL s.2.1 := by
          rw [wr_t z, ex, dp_app, if_neg (n20' k2), if_neg (n33 k2 k3)]
          exact ⟨wf_app a (Or.inr (Or.inr ⟨⟨k, k1, k2, k3, rfl⟩, by omega⟩)), by omega⟩
        obtain ⟨x, y⟩ := GW_lp hj hs f _ wt.1 (by rw [wt.2]; exact dp) o
        exact ⟨x, y.trans wt.2⟩
      · have e : wrF (20000 + sgF t n s.1) (sub (avF s)) = sub (avF s) := by unfold wrF; rw [if_neg z]
        rw [e] at o
        have st : ∀ g, lpF t n (nI j) sub g (sub (avF s)) = sub (avF s) := fun g => by
          cases g with
          | zero => rfl
          | succ g => unfold lpF; rw [if_neg (fun y => z y.1)]
        rw [st] at o
        exact absurd o z
    · rw [if_neg q]; exact ⟨w, rfl⟩
theorem lp_ok {t : Nat → Int32} {n j : Nat} {sub : PT → PT} {s : PT} (h : ¬ s.2.2 = true) : ∀ g, lpF t n (nI j) sub g s = s
  | 0 => rfl
  | g + 1 => by unfold lpF; rw [if_neg (fun y => h y.1)]
theorem GW_le {t : Nat → Int32} {n : Nat} {pf : PT → PT} (h : GW pf) : ∀ j, j ≤ 5 → GW (leF t n pf j)
  | 0, _ => h
  | j + 1, hj => by
    intro s ok w o
    have o : (lpF t n (nI (4 - j)) (leF t n pf j) (fuL j) (leF t n pf j s)).2.2 = true := o
    by_cases z : (leF t n pf j s).2.2 = true
    · obtain ⟨a, b⟩ := GW_le (t := t) (n := n) h j (by omega) s ok w z
      obtain ⟨x, y⟩ := GW_lp (t := t) (n := n) (j := 4 - j) (by omega) (GW_le (t := t) (n := n) h j (by omega)) (fuL j) (leF t n pf j s) a (by omega) o
      exact ⟨x, y.trans b⟩
    · rw [lp_ok z] at o; exact absurd o z
theorem GW_pa {t : Nat → Int32} {n u : Nat} : ∀ r, GW (paF t n u r)
  | 0 => GW_pt (fun h => by cases h) (fun h => by cases h)
  | r + 1 => GW_pt (fun _ => GW_pa r) (fun _ => GW_le (GW_pa r) 5 (Nat.le_refl _))
