/-! what holds between two calls of the law -/
abbrev upd1 (d : Nat → Int32) (k : Nat) (v : Int32) : Nat → Int32 := fun j => if j = k then v else d j
def SH (m : Mem) (s : Nat) : Prop := m 65 s = m 77 s ∧ m 66 s = m 78 s ∧ (m 77 s = 0 ∨ m 77 s = 8 ∨ m 77 s = 16 ∨ m 77 s = 32) ∧ nb (m 78 s) 41 ∧ ∀ i, i < 40 → m (61 + s) i = m 79 (40 * s + i)
def INVd (m : Mem) : Prop := WF (m 69) ∧ nb (m 69 1) 10000 ∧ TR 9 m (m 69) ∧ PR 36 m (m 69)
def KEP (m : Mem) : Prop := WF (m 70) ∧ nb (m 70 1) 10000 ∧ TR 27 m (m 70) ∧ PR 47 m (m 70)
def TRC (m : Mem) : Prop := m 58 1 = m 68 16 ∧ nb (m 68 16) 41 ∧ ∀ i, i < (m 68 16).toNatClampNeg → m 59 i = m 76 i
def INVr (m : Mem) : Prop := (m 0 10 = m 68 3 ∧ (m 68 3 ≠ 0 → KEP m) ∧ m 50 1 = 9 ∧ m 54 1 = 99) ∧ (∀ k, 1 ≤ k → k ≤ 5 → m 67 k = m 72 k) ∧ TRC m ∧ ∀ s, s < 4 → SH m s
def INV (m : Mem) : Prop := INVd m ∧ INVr m
theorem PR_same {p : Nat} {m m' : Mem} {d : Nat → Int32} (h : PR p m d) (hs : ∀ b, (p ≤ b ∧ b ≤ p + 4) ∨ b = p + 7 ∨ b = p + 8 → m' b = m b) : PR p m' d := by
  obtain ⟨p4, p5, p6, pt, pw, ⟨a0, b0, c0⟩, ⟨a1, b1, c1⟩⟩ := h
  have e0 := hs p (by omega)
  have e3 := hs (p + 3) (by omega)
  have e7 := hs (p + 7) (by omega)
  exact ⟨by rw [e0]; exact p4, by rw [e0]; exact p5, by rw [e0]; exact p6, fun i hi => by rw [hs _ (by omega)]; exact pt i hi, fun i hi => by rw [hs _ (by omega)]; exact pw i hi, ⟨by rw [e3]; exact a0, by rw [e3]; exact b0, fun j hj => by rw [hs _ (by omega)]; exact c0 j hj⟩, ⟨by rw [e7]; exact a1, by rw [e7]; exact b1, fun j hj => by rw [hs _ (by omega)]; exact c1 j hj⟩⟩
theorem PR_d {p : Nat} {m : Mem} {d e : Nat → Int32} (h : PR p m d) (hs : ∀ k, (5 ≤ k ∧ k ≤ 7) ∨ 88 ≤ k → e k = d k) : PR p m e := by
  obtain ⟨p4, p5, p6, pt, pw, l0, l1⟩ := h
  exact ⟨by rw [hs 6 (by omega)]; exact p4, by rw [hs 7 (by omega)]; exact p5, by rw [hs 5 (by omega)]; exact p6, fun i hi => by rw [hs _ (by omega)]; exact pt i hi, fun i hi => by rw [hs _ (by omega)]; exact pw i hi, LR_congr (by decide) l0 rfl rfl (fun k hk => hs k (by omega)), LR_congr (by decide) l1 rfl rfl (fun k hk => hs k (by omega))⟩
theorem TR_d {t : Nat} {m : Mem} {d e : Nat → Int32} (h : TR t m d) (hs : ∀ k, k < 88 → k < 5 ∨ 8 ≤ k → e k = d k) : TR t m e := by
  obtain ⟨t9, t10, t11, t12, t13, ts, tt, th⟩ := h
  exact ⟨by rw [hs 0 (by omega) (by omega)]; exact t9, by rw [hs 2 (by omega) (by omega)]; exact t10, by rw [hs 3 (by omega) (by omega)]; exact t11, by rw [hs 4 (by omega) (by omega)]; exact t12, by rw [hs 1 (by omega) (by omega)]; exact t13, fun i hi => by rw [hs _ (by omega) (by omega)]; exact ts i hi, fun i hi => by rw [hs _ (by omega) (by omega)]; exact tt i hi, fun i hi r hr => by rw [th i hi r hr]; exact (hs _ (by omega) (by omega)).symm⟩
def cD : List Nat := [9, 10, 11, 12, 13, 14, 15, 16, 17, 36, 37, 38, 39, 40, 43, 44, 69]
def cR : List Nat := [0, 27, 28, 29, 30, 31, 32, 33, 34, 35, 47, 48, 49, 50, 51, 54, 55, 58, 59, 61, 62, 63, 64, 65, 66, 67, 70, 72, 76, 77, 78, 79]
theorem TR9_same {m m' : Mem} {d : Nat → Int32} (h : TR 9 m d) (hs : ∀ b ∈ cD, m' b = m b) : TR 9 m' d := TR_same h (fun b b1 b2 => hs b (by rcases (show b = 9 ∨ b = 10 ∨ b = 11 ∨ b = 12 ∨ b = 13 ∨ b = 14 ∨ b = 15 ∨ b = 16 ∨ b = 17 by omega) with rfl | rfl | rfl | rfl | rfl | rfl | rfl | rfl | rfl <;> decide))
theorem PR36_same {m m' : Mem} {d : Nat → Int32} (h : PR 36 m d) (hs : ∀ b ∈ cD, m' b = m b) : PR 36 m' d := PR_same h (fun b b1 => hs b (by rcases (show b = 36 ∨ b = 37 ∨ b = 38 ∨ b = 39 ∨ b = 40 ∨ b = 43 ∨ b = 44 by omega) with rfl | rfl | rfl | rfl | rfl | rfl | rfl <;> decide))
theorem INVd_same {m m' : Mem} (h : INVd m) (hs : ∀ b ∈ cD, m' b = m b) : INVd m' := by
  obtain ⟨w, hd, hT, hP⟩ := h
  have e := hs 69 (by decide)
  exact ⟨by rw [e]; exact w, by rw [e]; exact hd, by rw [e]; exact TR9_same hT hs, by rw [e]; exact PR36_same hP hs⟩
theorem SH_same {m m' : Mem} {s : Nat} (hs4 : s < 4) (h : SH m s) (hs : ∀ b ∈ cR, m' b = m b) : SH m' s := by
  obtain ⟨a, b, c, d, e⟩ := h
  have e65 := hs 65 (by decide)
  have e66 := hs 66 (by decide)
  have e77 := hs 77 (by decide)
  have e78 := hs 78 (by decide)
  have e79 := hs 79 (by decide)
  have e61 : m' (61 + s) = m (61 + s) := hs _ (by rcases (show s = 0 ∨ s = 1 ∨ s = 2 ∨ s = 3 by omega) with rfl | rfl | rfl | rfl <;> decide)
  exact ⟨by rw [e65, e77]; exact a, by rw [e66, e78]; exact b, by rw [e77]; exact c, by rw [e78]; exact d, fun i hi => by rw [e61, e79]; exact e i hi⟩
theorem KEP_same {m m' : Mem} (h : KEP m) (hs : ∀ b ∈ cR, m' b = m b) : KEP m' := by
  obtain ⟨k1, k2, k3, k4⟩ := h
  have e70 := hs 70 (by decide)
  exact ⟨by rw [e70]; exact k1, by rw [e70]; exact k2, by rw [e70]; exact TR_same k3 (fun b b1 b2 => hs b (by rcases (show b = 27 ∨ b = 28 ∨ b = 29 ∨ b = 30 ∨ b = 31 ∨ b = 32 ∨ b = 33 ∨ b = 34 ∨ b = 35 by omega) with rfl | rfl | rfl | rfl | rfl | rfl | rfl | rfl | rfl <;> decide)), by rw [e70]; exact PR_same k4 (fun b b1 => hs b (by rcases (show b = 47 ∨ b = 48 ∨ b = 49 ∨ b = 50 ∨ b = 51 ∨ b = 54 ∨ b = 55 by omega) with rfl | rfl | rfl | rfl | rfl | rfl | rfl <;> decide))⟩
theorem TRC_same {m m' : Mem} (h : TRC m) (h58 : m' 58 1 = m 58 1) (h59 : m' 59 = m 59) (h76 : m' 76 = m 76) (h16 : m' 68 16 = m 68 16) : TRC m' := by
  obtain ⟨a, b, c⟩ := h
  exact ⟨by rw [h58, h16]; exact a, by rw [h16]; exact b, fun i hi => by rw [h59, h76]; rw [h16] at hi; exact c i hi⟩
theorem INVr_same {m m' : Mem} (h : INVr m) (hs : ∀ b ∈ cR, m' b = m b) (h3 : m' 68 3 = m 68 3) (h16 : m' 68 16 = m 68 16) : INVr m' := by
  obtain ⟨⟨a1, a2, a3, a4⟩, b, c, d⟩ := h
  refine ⟨⟨by rw [hs 0 (by decide), h3]; exact a1, fun q => KEP_same (a2 (by rw [← h3]; exact q)) hs, by rw [hs 50 (by decide)]; exact a3, by rw [hs 54 (by decide)]; exact a4⟩, fun k k1 k2 => by rw [hs 67 (by decide), hs 72 (by decide)]; exact b k k1 k2, TRC_same c (by rw [hs 58 (by decide)]) (hs 59 (by decide)) (hs 76 (by decide)) h16, fun s s4 => SH_same s4 (d s s4) hs⟩
theorem INVr_err {m : Mem} (h : INVr m) (k : Nat) : INVr (up2 (up2 m 67 k (m 67 k + 1)) 72 k (up2 m 67 k (m 67 k + 1) 72 k + 1)) ∨ ¬ (1 ≤ k ∧ k ≤ 5) := by
  by_cases hk : 1 ≤ k ∧ k ≤ 5
  · left
    obtain ⟨⟨a1, a2, a3, a4⟩, b, c, d⟩ := h
    have o : ∀ c, c ≠ 67 → c ≠ 72 → up2 (up2 m 67 k (m 67 k + 1)) 72 k (up2 m 67 k (m 67 k + 1) 72 k + 1) c = m c := fun c h1 h2 => by rw [up2_r h2, up2_r h1]
    refine ⟨⟨by rw [o 0 (by decide) (by decide), o 68 (by decide) (by decide)]; exact a1, fun q => ?_, by rw [o 50 (by decide) (by decide)]; exact a3, by rw [o 54 (by decide) (by decide)]; exact a4⟩, fun i i1 i2 => ?_, TRC_same c (by rw [o 58 (by decide) (by decide)]) (o 59 (by decide) (by decide)) (o 76 (by decide) (by decide)) (by rw [o 68 (by decide) (by decide)]), fun s s4 => ?_⟩
    · rw [o 68 (by decide) (by decide)] at q
      obtain ⟨k1, k2, k3, k4⟩ := a2 q
      have e70 := o 70 (by decide) (by decide)
      exact ⟨by rw [e70]; exact k1, by rw [e70]; exact k2, by rw [e70]; exact TR_same k3 (fun b b1 b2 => o b (by omega) (by omega)), by rw [e70]; exact PR_same k4 (fun b b1 => o b (by omega) (by omega))⟩
    · have := b i i1 i2
      by_cases q : i = k
      · subst q
        rw [up2_a (by decide), up2_s, up2_s, up2_a (by decide), this]
      · exact ((up2_k q).trans (up2_k q)).trans (this.trans ((up2_k q).trans (up2_k q)).symm)
    · obtain ⟨x1, x2, x3, x4, x5⟩ := d s s4
      exact ⟨by rw [o 65 (by decide) (by decide), o 77 (by decide) (by decide)]; exact x1, by rw [o 66 (by decide) (by decide), o 78 (by decide) (by decide)]; exact x2, by rw [o 77 (by decide) (by decide)]; exact x3, by rw [o 78 (by decide) (by decide)]; exact x4, fun i hi => by rw [o (61 + s) (by omega) (by omega), o 79 (by decide) (by decide)]; exact x5 i hi⟩
  · exact Or.inr hk
def errC (k : Nat) (m : Mem) : Mem := up2 m 67 k (m 67 k + 1)
def errM (k : Nat) (m : Mem) : Mem := up2 m 72 k (m 72 k + 1)
theorem INV_err {m : Mem} (h : INV m) {k : Nat} (hk : 1 ≤ k ∧ k ≤ 5) : INV (errM k (errC k m)) := by
  refine ⟨INVd_same h.1 (fun b hb => ?_), (INVr_err h.2 k).resolve_right (fun q => q hk)⟩
  have h1 : b ≠ 72 := fun q => by subst q; exact absurd hb (by decide)
  have h2 : b ≠ 67 := fun q => by subst q; exact absurd hb (by decide)
  exact (up2_r h1).trans (up2_r h2)
/-- one call, on both sides -/
def OPr (l : Launch) (g : Gv) (y x : MD) (as : List Value) (m : Mem) : Prop := ∃ (d1 d2 : Nat) (r : Int32) (P : Mem → Prop), d1 < 1000 ∧ d2 < 1000 ∧ JM l g d1 y (rf g 0 :: as) m (RS (some (.int r)) P) ∧ ∀ m', P m' → JM l g d2 x (rf g 68 :: as) m' (RS (some (.int r)) INV)
theorem RS_w {v : Option Value} {P P' : Mem → Prop} (h : ∀ m, P m → P' m) : ∀ r m', RS v P r m' → RS v P' r m' := fun _ m' q => ⟨q.1, h m' q.2⟩
/-- both sides tell the same ERROR -/
theorem OPr_err {l : Launch} {g : Gv} {y x : MD} {as : List Value} {m : Mem} {d1 d2 k : Nat} {E : Int32} (I : INV m) (hk : 1 ≤ k ∧ k ≤ 5) (h1 : d1 < 1000) (h2 : d2 < 1000) (hC : JM l g d1 y (rf g 0 :: as) m (RF (some (.int E)) (errC k m))) (hM : JM l g d2 x (rf g 68 :: as) (errC k m) (RF (some (.int E)) (errM k (errC k m)))) : OPr l g y x as m :=
  ⟨d1, d2, E, fun m' => m' = errC k m, h1, h2, hC, fun m' e => by subst e; exact hM.mono (RS_w (fun _ q => by rw [q]; exact INV_err I hk))⟩
theorem errC_o {k : Nat} {m : Mem} {b : Nat} (h : b ≠ 67) : errC k m b = m b := up2_r h
/-- a question: the class's thoughts, the reference's scratch -/
def thS : List Nat := [18, 19, 20, 21, 22, 23, 24, 25, 26, 41, 45]
def mtS : List Nat := [69, 71, 73, 75]
theorem INV_ask {m m' m'' : Mem} (I : INV m) (h1 : Sm thS m m') (h2 : Sm mtS m' m'') (e : m'' 69 = m' 69) : INV m'' := by
  have hD : ∀ b ∈ cD, m'' b = m b := fun b hb => by
    by_cases q : b = 69
    · subst q; rw [e]; exact h1 69 (by decide)
    · rw [h2 b (by
        intro z
        simp only [mtS, List.mem_cons, List.not_mem_nil, or_false] at z
        rcases z with rfl | rfl | rfl | rfl
        · exact q rfl
        · exact absurd hb (by decide)
        · exact absurd hb (by decide)
        · exact absurd hb (by decide))]
      refine h1 b (fun z => ?_)
      simp only [thS, List.mem_cons, List.not_mem_nil, or_false] at z
      rcases z with rfl | rfl | rfl | rfl | rfl | rfl | rfl | rfl | rfl | rfl | rfl <;> exact absurd hb (by decide)
  have hR : ∀ b ∈ cR, m'' b = m b := fun b hb => by
    rw [h2 b (by
        intro z
        simp only [mtS, List.mem_cons, List.not_mem_nil, or_false] at z
        rcases z with rfl | rfl | rfl | rfl <;> exact absurd hb (by decide))]
    refine h1 b (fun z => ?_)
    simp only [thS, List.mem_cons, List.not_mem_nil, or_false] at z
    rcases z with rfl | rfl | rfl | rfl | rfl | rfl | rfl | rfl | rfl | rfl | rfl <;> exact absurd hb (by decide)
  exact ⟨INVd_same I.1 hD, INVr_same I.2 hR (by rw [h2 68 (by decide), h1 68 (by decide)]) (by rw [h2 68 (by decide), h1 68 (by decide)])⟩
theorem isH_c {d : Nat → Int32} (w : WF d) {h : Int32} : (0 ≤ h ∧ h < d 0 ∧ h < 8) ↔ ∃ j, j < hn d ∧ h = nI j := by
  have wn := w.n
  constructor
  · rintro ⟨a, b, c⟩
    obtain ⟨j, j1, rfl⟩ := nI_of (Int32.not_lt.mpr a)
    rw [wn.2] at b
    exact ⟨j, (nI_ltI j1 (by omega)).mp b, rfl⟩
  · rintro ⟨j, j1, rfl⟩
    refine ⟨nI_pos' (by omega), by rw [wn.2]; exact nI_lt j1 (by omega), nI_lt (a := j) (b := 8) (by omega) (by decide)⟩
theorem isH_m {d : Nat → Int32} (w : WF d) {h : Int32} : (0 ≤ h ∧ h ≤ d 0 - 1) ↔ ∃ j, j < hn d ∧ h = nI j := by
  have wn := w.n
  constructor
  · rintro ⟨a, b⟩
    obtain ⟨j, j1, rfl⟩ := nI_of (Int32.not_lt.mpr a)
    rw [wn.2] at b
    by_cases q : hn d = 0
    · rw [q] at b
      exact absurd (Int32.le_trans a b) (by decide)
    · have e : nI (hn d) - 1 = nI (hn d - 1) := pk_sub (b := 1) (by omega)
      rw [e] at b
      have := (nI_leI j1 (by omega)).mp b
      exact ⟨j, by omega, rfl⟩
  · rintro ⟨j, j1, rfl⟩
    refine ⟨nI_pos' (by omega), ?_⟩
    rw [wn.2, show nI (hn d) - 1 = nI (hn d - 1) from pk_sub (b := 1) (by omega)]
    exact nI_le (by omega) (by omega)
theorem rngN {x : Int32} (N : Nat) (hN : N < 2 ^ 31) : (0 ≤ x ∧ x ≤ nI N) ↔ ∃ j, j ≤ N ∧ x = nI j := by
  constructor
  · rintro ⟨a, b⟩
    exact nI_of2 (nI_toInt hN) (Int32.not_lt.mpr a) b
  · rintro ⟨j, h1, rfl⟩
    exact ⟨nI_pos' (by omega), nI_le h1 hN⟩
theorem INV_new {m m' : Mem} (I : INV m) (hR : ∀ b ∈ cR, m' b = m b) (h68 : m' 68 = m 68) (hd : INVd m') : INV m' := ⟨hd, INVr_same I.2 hR (by rw [h68]) (by rw [h68])⟩
theorem WF_sun' {d : Nat → Int32} (w : WF d) {i : Nat} {v : Int32} (hi : i < 16) (hv : nb v 10) : WF (upd1 d (8 + i) v) := by
  obtain ⟨w1, w2, w3, w4, w5, w6, w7, w8, w9, w10, w11, w12⟩ := w
  have o : ∀ j, j ≠ 8 + i → upd1 d (8 + i) v j = d j := fun j hj => if_neg hj
  refine ⟨by rw [o 0 (by omega)]; exact w1, by rw [o 2 (by omega)]; exact w2, by rw [o 3 (by omega)]; exact w3, by rw [o 4 (by omega)]; exact w4, by rw [o 6 (by omega)]; exact w5, by rw [o 7 (by omega)]; exact w6, fun j hj => ?_, fun j hj => by rw [o _ (by omega)]; exact w8 j hj, fun h hh => HWr_eq (fun r hr => o _ (by omega)) (w9 h hh), TX_congr (by decide) (fun j hj => o j (by omega)) w10, TX_congr (by decide) (fun j hj => o j (by omega)) w11, fun j hj => by rw [o _ (by omega)]; exact w12 j hj⟩
  by_cases q : j = i
  · rw [q]; show nb (if 8 + i = 8 + i then v else _) 10; rw [if_pos rfl]; exact hv
  · rw [o _ (by omega)]; exact w7 j hj
theorem WF_to' {d : Nat → Int32} (w : WF d) {i : Nat} {v : Int32} (hi : i < 16) (hv : nb v 16) : WF (upd1 d (24 + i) v) := by
  obtain ⟨w1, w2, w3, w4, w5, w6, w7, w8, w9, w10, w11, w12⟩ := w
  have o : ∀ j, j ≠ 24 + i → upd1 d (24 + i) v j = d j := fun j hj => if_neg hj
  refine ⟨by rw [o 0 (by omega)]; exact w1, by rw [o 2 (by omega)]; exact w2, by rw [o 3 (by omega)]; exact w3, by rw [o 4 (by omega)]; exact w4, by rw [o 6 (by omega)]; exact w5, by rw [o 7 (by omega)]; exact w6, fun j hj => by rw [o _ (by omega)]; exact w7 j hj, fun j hj => ?_, fun h hh => HWr_eq (fun r hr => o _ (by omega)) (w9 h hh), TX_congr (by decide) (fun j hj => o j (by omega)) w10, TX_congr (by decide) (fun j hj => o j (by omega)) w11, fun j hj => by rw [o _ (by omega)]; exact w12 j hj⟩
  by_cases q : j = i
  · rw [q]; show nb (if 24 + i = 24 + i then v else _) 16; rw [if_pos rfl]; exact hv
  · rw [o _ (by omega)]; exact w8 j hj
theorem WF_heir' {d e : Nat → Int32} (w : WF d) {h : Nat} (o : ∀ k, ¬ (40 + 6 * h ≤ k ∧ k < 46 + 6 * h) → e k = d k) (h8 : h < 8) (hh : HW e h) : WF e := by
  obtain ⟨w1, w2, w3, w4, w5, w6, w7, w8, w9, w10, w11, w12⟩ := w
  refine ⟨by rw [o 0 (by omega)]; exact w1, by rw [o 2 (by omega)]; exact w2, by rw [o 3 (by omega)]; exact w3, by rw [o 4 (by omega)]; exact w4, by rw [o 6 (by omega)]; exact w5, by rw [o 7 (by omega)]; exact w6, fun j hj => by rw [o _ (by omega)]; exact w7 j hj, fun j hj => by rw [o _ (by omega)]; exact w8 j hj, fun i hi => ?_, TX_congr (by decide) (fun j hj => o j (by omega)) w10, TX_congr (by decide) (fun j hj => o j (by omega)) w11, fun j hj => by rw [o _ (by omega)]; exact w12 j hj⟩
  by_cases q : i = h
  · rw [q]; exact hh
  · exact HWr_eq (fun r hr => o _ (by omega)) (w9 i hi)
theorem TR_sun {t : Nat} {m : Mem} {d : Nat → Int32} {i : Nat} {v : Int32} (h : TR t m d) (hi : i < 16) : TR t (up2 m (t + 1) i v) (upd1 d (8 + i) v) := by
  obtain ⟨t9, t10, t11, t12, t13, ts, tt, th⟩ := h
  have o : ∀ j, j ≠ 8 + i → upd1 d (8 + i) v j = d j := fun j hj => if_neg hj
  refine ⟨by rw [up2_a (by omega), o 0 (by omega)]; exact t9, by rw [up2_a (by omega), o 2 (by omega)]; exact t10, by rw [up2_a (by omega), o 3 (by omega)]; exact t11, by rw [up2_a (by omega), o 4 (by omega)]; exact t12, by rw [up2_a (by omega), o 1 (by omega)]; exact t13, fun j hj => ?_, fun j hj => by rw [up2_a (by omega), o _ (by omega)]; exact tt j hj, fun j hj r hr => by rw [up2_a (by omega)]; exact (th j hj r hr).trans (o _ (by omega)).symm⟩
  by_cases q : j = i
  · rw [q, up2_s]; exact (if_pos rfl).symm
  · rw [up2_k q, o _ (by omega)]; exact ts j hj
theorem TR_to {t : Nat} {m : Mem} {d : Nat → Int32} {i : Nat} {v : Int32} (h : TR t m d) (hi : i < 16) : TR t (up2 m (t + 2) i v) (upd1 d (24 + i) v) := by
  obtain ⟨t9, t10, t11, t12, t13, ts, tt, th⟩ := h
  have o : ∀ j, j ≠ 24 + i → upd1 d (24 + i) v j = d j := fun j hj => if_neg hj
  refine ⟨by rw [up2_a (by omega), o 0 (by omega)]; exact t9, by rw [up2_a (by omega), o 2 (by omega)]; exact t10, by rw [up2_a (by omega), o 3 (by omega)]; exact t11, by rw [up2_a (by omega), o 4 (by omega)]; exact t12, by rw [up2_a (by omega), o 1 (by omega)]; exact t13, fun j hj => by rw [up2_a (by omega), o _ (by omega)]; exact ts j hj, fun j hj => ?_, fun j hj r hr => by rw [up2_a (by omega)]; exact (th j hj r hr).trans (o _ (by omega)).symm⟩
  by_cases q : j = i
  · rw [q, up2_s]; exact (if_pos rfl).symm
  · rw [up2_k q, o _ (by omega)]; exact tt j hj
theorem TR_hf {t : Nat} {m : Mem} {d : Nat → Int32} {i r : Nat} {v : Int32} (h : TR t m d) (hi : i < 8) (hr : r < 6) : TR t (up2 m (t + 3 + r) i v) (upd1 d (40 + 6 * i + r) v) := by
  obtain ⟨t9, t10, t11, t12, t13, ts, tt, th⟩ := h
  have o : ∀ j, j ≠ 40 + 6 * i + r → upd1 d (40 + 6 * i + r) v j = d j := fun j hj => if_neg hj
  refine ⟨by rw [up2_a (by omega), o 0 (by omega)]; exact t9, by rw [up2_a (by omega), o 2 (by omega)]; exact t10, by rw [up2_a (by omega), o 3 (by omega)]; exact t11, by rw [up2_a (by omega), o 4 (by omega)]; exact t12, by rw [up2_a (by omega), o 1 (by omega)]; exact t13, fun j hj => by rw [up2_a (by omega), o _ (by omega)]; exact ts j hj, fun j hj => by rw [up2_a (by omega), o _ (by omega)]; exact tt j hj, fun j hj q hq => ?_⟩
  by_cases z : q = r
  · subst z
    by_cases y : j = i
    · rw [y, up2_s]; exact (if_pos rfl).symm
    · rw [up2_k y]; exact (th j hj q hq).trans (o _ (by omega)).symm
  · rw [up2_a (by omega)]; exact (th j hj q hq).trans (o _ (by omega)).symm
/-- the five numbers of the town: slot 9 + .. of the class, place k of the row -/
theorem TR_sc {t : Nat} {m : Mem} {d : Nat → Int32} {s k : Nat} {v : Int32} (h : TR t m d) (hk : (s = 9 ∧ k = 0) ∨ (s = 10 ∧ k = 2) ∨ (s = 11 ∧ k = 3) ∨ (s = 12 ∧ k = 4) ∨ (s = 13 ∧ k = 1)) : TR t (up2 m t s v) (upd1 d k v) := by
  obtain ⟨t9, t10, t11, t12, t13, ts, tt, th⟩ := h
  have o : ∀ j, j ≠ k → upd1 d k v j = d j := fun j hj => if_neg hj
  have key : ∀ s' k', (s' = 9 ∧ k' = 0) ∨ (s' = 10 ∧ k' = 2) ∨ (s' = 11 ∧ k' = 3) ∨ (s' = 12 ∧ k' = 4) ∨ (s' = 13 ∧ k' = 1) → m t s' = d k' → up2 m t s v t s' = upd1 d k v k' := fun s' k' q e => by
    by_cases z : s' = s
    · have : k' = k := by omega
      rw [z, this, up2_s]; exact (if_pos rfl).symm
    · rw [up2_k z, o _ (by omega)]; exact e
  exact ⟨key 9 0 (by omega) t9, key 10 2 (by omega) t10, key 11 3 (by omega) t11, key 12 4 (by omega) t12, key 13 1 (by omega) t13, fun j hj => by rw [up2_a (by omega), o _ (by omega)]; exact ts j hj, fun j hj => by rw [up2_a (by omega), o _ (by omega)]; exact tt j hj, fun j hj r hr => by rw [up2_a (by omega)]; exact (th j hj r hr).trans (o _ (by omega)).symm⟩
