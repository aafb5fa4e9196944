/-! A DAY, on the row d of the reference -/
def itT (d : Nat → Int32) : Nat → Int32 → Int32
  | 0, s => s
  | k + 1, s => itT d k (d (24 + s.toNatClampNeg))
abbrev hn (d : Nat → Int32) : Nat := (d 0).toNatClampNeg
def comeF (d : Nat → Int32) : Int32 := textG d 0 (d 2) (irm (d 1) 24) (nI (cntF d (hn d)))
/-- the fields of the HEIRS below n by f, all else as in d -/
def ppu (f : Nat → Nat → Int32) (n : Nat) (d : Nat → Int32) : Nat → Int32 := fun k => if 40 ≤ k ∧ (k - 40) / 6 < n then f ((k - 40) / 6) ((k - 40) % 6) else d k
def drN (d : Nat → Int32) (come : Int32) (h : Nat) : Int32 := drF (kN d h) come (hf d h 1) (d 1)
def car1 (d : Nat → Int32) (come : Int32) (h r : Nat) : Int32 := if r = 4 ∧ hf d h 3 = 0 then itT d (drN d come h).toNatClampNeg (hf d h 4) else hf d h r
def car (d : Nat → Int32) (come : Int32) (h r : Nat) : Int32 := if hf d h 3 = 0 then (if r = 4 then itT d (drN d come h).toNatClampNeg (hf d h 4) else hf d h r) else if r = 3 then hf d h 3 - 1 else if r = 4 then (if hf d h 3 - 1 = 0 then hf d h 2 else -1) else hf d h r
def carF (d : Nat → Int32) : Nat → Int32 := ppu (car d (comeF d)) (hn d) d
def byF (e : Nat → Int32) (h : Nat) : Int32 := textG e 1 (shF (kN e h) (sunM e h) (hf e h 1) (e 1)) (sunM e h) (irm (e 1) 24)
def glF (e : Nat → Int32) : Nat → Int32
  | 0 => e 4
  | h + 1 => if hf e h 3 = 0 then heldF (glF e h + byF e h) 0 99999 else glF e h
def liF (e : Nat → Int32) (h r : Nat) : Int32 := if r = 5 ∧ hf e h 3 = 0 then heldF (hf e h 5 + byF e h) 0 9999 else hf e h r
def shiN (e : Nat → Int32) (n : Nat) : Nat → Int32 := fun k => if k = 4 then glF e n else ppu (liF e) n e k
def shiF (e : Nat → Int32) : Nat → Int32 := shiN e (hn e)
def dyF (e : Nat → Int32) : Nat → Int32 := fun k => if k = 1 then e 1 + 1 else e k
def swp (e : Nat → Int32) (h r : Nat) : Int32 := if r = 4 ∧ hf e h 3 = 0 ∧ sunM e h = 0 then hf e h 2 else hf e h r
def swF (e : Nat → Int32) : Nat → Int32 := if irm (e 1) (e 3) = 0 then ppu (swp e) (hn e) e else e
def dayF (d : Nat → Int32) : Nat → Int32 := swF (dyF (shiF (carF d)))
theorem ppu_lo {f : Nat → Nat → Int32} {n k : Nat} {d : Nat → Int32} (h : k < 40) : ppu f n d k = d k := if_neg (fun q => by omega)
theorem ppu_hi {f : Nat → Nat → Int32} {n k : Nat} {d : Nat → Int32} (hn : n ≤ 8) (h : 88 ≤ k) : ppu f n d k = d k := if_neg (fun q => by omega)
theorem ppu_hf {f : Nat → Nat → Int32} {n h r : Nat} {d : Nat → Int32} (hr : r < 6) : hf (ppu f n d) h r = if h < n then f h r else hf d h r := by
  show (if 40 ≤ 40 + 6 * h + r ∧ (40 + 6 * h + r - 40) / 6 < n then f ((40 + 6 * h + r - 40) / 6) ((40 + 6 * h + r - 40) % 6) else d (40 + 6 * h + r)) = _
  rw [show (40 + 6 * h + r - 40) / 6 = h by omega, show (40 + 6 * h + r - 40) % 6 = r by omega]
  by_cases q : h < n
  · rw [if_pos ⟨by omega, q⟩, if_pos q]
  · rw [if_neg (fun z => q z.2), if_neg q]
theorem ppu_at {f : Nat → Nat → Int32} {h r : Nat} {d : Nat → Int32} (hr : r < 6) : hf (ppu f h d) h r = hf d h r := by rw [ppu_hf hr, if_neg (Nat.lt_irrefl h)]
theorem ppu_0 {f : Nat → Nat → Int32} {d : Nat → Int32} : ppu f 0 d = d := funext fun k => if_neg (fun q => by omega)
theorem ppu_next {f : Nat → Nat → Int32} {h : Nat} {d e : Nat → Int32} (h1 : ∀ r, r < 6 → hf e h r = f h r) (h2 : ∀ k, ¬ (40 + 6 * h ≤ k ∧ k < 46 + 6 * h) → e k = ppu f h d k) : e = ppu f (h + 1) d := by
  funext k
  by_cases q : 40 + 6 * h ≤ k ∧ k < 46 + 6 * h
  · have e1 := h1 (k - (40 + 6 * h)) (by omega)
    show _ = if 40 ≤ k ∧ (k - 40) / 6 < h + 1 then f ((k - 40) / 6) ((k - 40) % 6) else d k
    rw [if_pos ⟨by omega, by omega⟩, show (k - 40) / 6 = h by omega, show (k - 40) % 6 = k - (40 + 6 * h) by omega, ← e1]
    show e k = e (40 + 6 * h + (k - (40 + 6 * h)))
    rw [show 40 + 6 * h + (k - (40 + 6 * h)) = k by omega]
  · rw [h2 k q]
    unfold ppu
    by_cases z : 40 ≤ k ∧ (k - 40) / 6 < h
    · rw [if_pos z, if_pos ⟨z.1, by omega⟩]
    · rw [if_neg z, if_neg (fun y => by omega)]
theorem ppu_same {f : Nat → Nat → Int32} {h : Nat} {d : Nat → Int32} (h1 : ∀ r, r < 6 → f h r = hf d h r) : ppu f h d = ppu f (h + 1) d := ppu_next (fun r hr => by rw [ppu_at hr, h1 r hr]) (fun _ _ => rfl)
/-- one field set -/
theorem ppu_set {f : Nat → Nat → Int32} {h r : Nat} {v : Int32} {d : Nat → Int32} (hr : r < 6) (h1 : f h r = v) (h2 : ∀ q, q < 6 → q ≠ r → f h q = hf d h q) : (fun j => if j = 40 + 6 * h + r then v else ppu f h d j) = ppu f (h + 1) d := by
  refine ppu_next (fun q hq => ?_) (fun k hk => ?_)
  · show (if 40 + 6 * h + q = 40 + 6 * h + r then v else ppu f h d (40 + 6 * h + q)) = f h q
    by_cases e : q = r
    · rw [if_pos (by omega), e, h1]
    · rw [if_neg (by omega), h2 q hq e]
      exact ppu_at hq
  · show (if k = 40 + 6 * h + r then v else ppu f h d k) = _
    rw [if_neg (by omega)]
theorem up2_row69 {m : Mem} {a k : Nat} {v : Int32} : up2 m a k v a = fun j => if j = k then v else m a j := funext fun _ => up2_cell
def WF (d : Nat → Int32) : Prop := nb (d 0) 9 ∧ nb (d 2) 10 ∧ (nb (d 3) 31 ∧ d 3 ≠ 0) ∧ nb (d 4) 100000 ∧ nb (d 6) 51 ∧ nb (d 7) 21 ∧ (∀ i, i < 16 → nb (d (8 + i)) 10) ∧ (∀ i, i < 16 → nb (d (24 + i)) 16) ∧ (∀ h, h < 8 → HW d h) ∧ TXok d 0 ∧ TXok d 1 ∧ (∀ i, i < 50 → nb (d (210 + i)) 256)
theorem WF.n {d : Nat → Int32} (h : WF d) : hn d ≤ 8 ∧ d 0 = nI (hn d) := by
  have := nb_cl h.1 (by decide)
  exact ⟨Nat.lt_succ_iff.mp this.1, this.2⟩
theorem WF.hw {d : Nat → Int32} (w : WF d) {h : Nat} (hh : h < 8) : HW d h := w.2.2.2.2.2.2.2.2.1 h hh
theorem WF.to {d : Nat → Int32} (w : WF d) {i : Nat} (hi : i < 16) : nb (d (24 + i)) 16 := w.2.2.2.2.2.2.2.1 i hi
theorem WF.sun {d : Nat → Int32} (w : WF d) {i : Nat} (hi : i < 16) : nb (d (8 + i)) 10 := w.2.2.2.2.2.2.1 i hi
theorem WF.t0 {d : Nat → Int32} (w : WF d) : TXok d 0 := w.2.2.2.2.2.2.2.2.2.1
theorem WF.t1 {d : Nat → Int32} (w : WF d) : TXok d 1 := w.2.2.2.2.2.2.2.2.2.2.1
theorem held_nb {v : Int32} (N : Nat) (hN : N < 2 ^ 31) : nb (heldF v 0 (nI N)) (N + 1) := by
  unfold heldF
  by_cases h : v < 0
  · rw [if_pos h]; exact ⟨0, by omega, rfl⟩
  · rw [if_neg h]
    by_cases h2 : nI N < v
    · rw [if_pos h2]; exact ⟨N, by omega, rfl⟩
    · rw [if_neg h2]
      obtain ⟨j, h3, h4⟩ := nI_of2 (M := nI N) (n := N) (nI_toInt hN) h (Int32.not_lt.mp h2)
      exact ⟨j, by omega, h4⟩
theorem textG_nb0 (d : Nat → Int32) (a b c : Int32) : nb (textG d 0 a b c) 10 := held_nb 9 (by decide)
theorem textG_nb1 (d : Nat → Int32) (a b c : Int32) : nb (textG d 1 a b c) 100 := held_nb 99 (by decide)
theorem drF_nb {k : Nat} {x mm dy : Int32} (hx : nb x 10) (hm : nb mm 10) : nb (drF k x mm dy) 20 := by
  obtain ⟨a, ha, rfl⟩ := hx
  obtain ⟨b, hb, rfl⟩ := hm
  have e1 : nI a + 1 = nI (a + 1) := nI_1 a
  have hau : nb (if irm dy 7 = 0 then 0 else nI a) 10 := by
    by_cases h : irm dy 7 = 0
    · rw [if_pos h]; exact ⟨0, by omega, rfl⟩
    · rw [if_neg h]; exact ⟨a, ha, rfl⟩
  unfold drF
  match k with
  | 0 => exact ⟨a, by omega, rfl⟩
  | 1 => exact ⟨a / 2, by omega, pk_div (a := a) (d := 2) (by omega) (by decide) (by decide)⟩
  | 2 => exact ⟨a + 1, by omega, e1⟩
  | 3 => obtain ⟨j, h1, h2⟩ := hau; exact ⟨j, by omega, h2⟩
  | 4 => exact ⟨0, by omega, rfl⟩
  | 5 =>
    show nb (nI a + 1 + (if irm dy 5 = 0 then nI b else 0)) 20
    by_cases h : irm dy 5 = 0
    · rw [if_pos h, e1, nI_add]; exact ⟨a + 1 + b, by omega, rfl⟩
    · rw [if_neg h, e1]; exact ⟨a + 1, by omega, by rw [show (0 : Int32) = nI 0 from rfl, nI_add]⟩
  | k + 6 =>
    show nb (imax 1 _) 20
    obtain ⟨j, h1, h2⟩ := hau
    rw [h2]
    unfold imax
    by_cases h : 1 < nI j
    · rw [if_pos h]; exact ⟨j, by omega, rfl⟩
    · rw [if_neg h]; exact ⟨1, by omega, rfl⟩
theorem itT_nb {d : Nat → Int32} (w : ∀ i, i < 16 → nb (d (24 + i)) 16) : ∀ (k : Nat) (s : Int32), nb s 16 → nb (itT d k s) 16
  | 0, s, h => h
  | k + 1, s, h => itT_nb w k _ (by
      obtain ⟨j, h1, rfl⟩ := h
      rw [nI_clamp (by omega)]
      exact w j h1)
theorem itT_row {d e : Nat → Int32} (h : ∀ i, i < 16 → e (24 + i) = d (24 + i)) (w : ∀ i, i < 16 → nb (d (24 + i)) 16) : ∀ (k : Nat) (s : Int32), nb s 16 → itT e k s = itT d k s
  | 0, s, _ => rfl
  | k + 1, s, hs => by
    obtain ⟨j, h1, rfl⟩ := hs
    show itT e k (e (24 + (nI j).toNatClampNeg)) = itT d k (d (24 + (nI j).toNatClampNeg))
    rw [nI_clamp (by omega), h j h1]
    exact itT_row h w k _ (w j h1)
theorem cnt_t {d : Nat → Int32} {h : Nat} (q : hf d h 3 = 0) : nI (cntF d h) + 1 = nI (cntF d (h + 1)) := by
  show _ = nI (cntF d h + if hf d h 3 = 0 then 1 else 0)
  rw [if_pos q]; exact nI_1 _
theorem cnt_f {d : Nat → Int32} {h : Nat} (q : ¬ hf d h 3 = 0) : nI (cntF d h) + 0 = nI (cntF d (h + 1)) := by
  show _ = nI (cntF d h + if hf d h 3 = 0 then 1 else 0)
  rw [if_neg q]; exact nI_add _ 0
theorem ppu_ppu {f f' : Nat → Nat → Int32} {n : Nat} {d : Nat → Int32} : ppu f n (ppu f' n d) = ppu f n d := by
  funext k
  unfold ppu
  by_cases h : 40 ≤ k ∧ (k - 40) / 6 < n
  · rw [if_pos h, if_pos h]
  · rw [if_neg h, if_neg h, if_neg h]
theorem TX_congr {d e : Nat → Int32} {u : Nat} (hu : u ≤ 1) (h : ∀ k, 88 ≤ k → e k = d k) : TXok d u → TXok e u := by
  intro ⟨n, h1, h2, h3⟩
  refine ⟨n, h1, by rw [h _ (by omega)]; exact h2, ?_⟩
  rw [show (fun j => e (110 + 50 * u + j)) = (fun j => d (110 + 50 * u + j)) from funext fun j => h _ (by omega)]
  exact h3
theorem tG_congr {d e : Nat → Int32} {u : Nat} {a b c : Int32} (hu : u ≤ 1) (h : ∀ k, 88 ≤ k → e k = d k) : textG e u a b c = textG d u a b c := by
  unfold textG
  rw [h _ (by omega), show (fun j => e (110 + 50 * u + j)) = (fun j => d (110 + 50 * u + j)) from funext fun j => h _ (by omega)]
theorem HWr_eq {v v' : Nat → Int32} (e : ∀ r, r < 6 → v r = v' r) (h : HWr v') : HWr v := by
  unfold HWr
  rw [e 0 (by decide), e 1 (by decide), e 2 (by decide), e 3 (by decide), e 4 (by decide), e 5 (by decide)]
  exact h
theorem WF_ppu {d : Nat → Int32} {f : Nat → Nat → Int32} {n : Nat} (w : WF d) (hn : n ≤ 8) (hf1 : ∀ h, h < n → HWr (f h)) : WF (ppu f n d) := by
  have lo : ∀ k, k < 40 → ppu f n d k = d k := fun k hk => ppu_lo hk
  have hi : ∀ k, 88 ≤ k → ppu f n d k = d k := fun k hk => ppu_hi hn hk
  obtain ⟨w1, w2, w3, w4, w5, w6, w7, w8, w9, w10, w11, w12⟩ := w
  refine ⟨by rw [lo 0 (by decide)]; exact w1, by rw [lo 2 (by decide)]; exact w2, by rw [lo 3 (by decide)]; exact w3, by rw [lo 4 (by decide)]; exact w4, by rw [lo 6 (by decide)]; exact w5, by rw [lo 7 (by decide)]; exact w6, fun i hi2 => by rw [lo _ (by omega)]; exact w7 i hi2, fun i hi2 => by rw [lo _ (by omega)]; exact w8 i hi2, fun h hh => ?_, TX_congr (by decide) hi w10, TX_congr (by decide) hi w11, fun i hi2 => by rw [hi _ (by omega)]; exact w12 i hi2⟩
  have e : ∀ r, r < 6 → hf (ppu f n d) h r = if h < n then f h r else hf d h r := fun r hr => ppu_hf hr
  by_cases q : h < n
  · exact HWr_eq (fun r hr => (e r hr).trans (if_pos q)) (hf1 h q)
  · exact HWr_eq (fun r hr => (e r hr).trans (if_neg q)) (w9 h hh)
theorem pred_nb {x : Int32} {N : Nat} (h : nb x N) (h0 : x ≠ 0) (hN : N ≤ 2 ^ 31) : nb (x - 1) N := by
  obtain ⟨j, h1, rfl⟩ := h
  have : j ≠ 0 := fun q => h0 (by rw [q]; rfl)
  exact ⟨j - 1, by omega, pk_sub (b := 1) (by omega)⟩
theorem car_ok {d : Nat → Int32} (w : WF d) {come : Int32} {h : Nat} (hh : h < 8) : HWr (car d come h) := by
  have hw := w.hw hh
  obtain ⟨w0, w1, w2, w3, w4, w5, w6⟩ := hw
  unfold HWr car
  by_cases q : hf d h 3 = 0
  · simp only [if_pos q]
    exact ⟨w0, w1, w2, w3, fun _ => itT_nb (fun i hi => w.to hi) _ _ (w4 q), fun z => absurd q z, w6⟩
  · simp only [if_neg q]
    refine ⟨w0, w1, w2, pred_nb w3 q (by decide), fun z => ?_, fun z => ?_, w6⟩
    · show nb (if hf d h 3 - 1 = 0 then hf d h 2 else -1) 16
      rw [if_pos (show hf d h 3 - 1 = 0 from z)]; exact w2
    · show (if hf d h 3 - 1 = 0 then hf d h 2 else -1) = -1
      rw [if_neg (show ¬ hf d h 3 - 1 = 0 from z)]
theorem WF_car {d : Nat → Int32} (w : WF d) : WF (carF d) := WF_ppu w w.n.1 (fun h hh => car_ok w (by have := w.n.1; omega))
theorem sun_nb {e : Nat → Int32} (w : WF e) {h : Nat} (hh : h < 8) : nb (sunM e h) 10 := by
  obtain ⟨w0, w1, w2, w3, w4, w5, w6⟩ := w.hw hh
  unfold sunM
  by_cases q : hf e h 3 = 0
  · rw [if_pos q]
    have := nb_cl (w4 q) (by decide)
    exact w.sun this.1
  · rw [if_neg q]
    have := nb_cl w2 (by decide)
    exact w.sun this.1
theorem gl_nb {e : Nat → Int32} (w : WF e) : ∀ n, nb (glF e n) 100000
  | 0 => w.2.2.2.1
  | n + 1 => by
    unfold glF
    by_cases q : hf e n 3 = 0
    · rw [if_pos q]; exact held_nb 99999 (by decide)
    · rw [if_neg q]; exact gl_nb w n
theorem li_ok {e : Nat → Int32} (w : WF e) {h : Nat} (hh : h < 8) : HWr (liF e h) := by
  obtain ⟨w0, w1, w2, w3, w4, w5, w6⟩ := w.hw hh
  unfold HWr liF
  refine ⟨w0, w1, w2, w3, w4, w5, ?_⟩
  by_cases q : hf e h 3 = 0
  · rw [if_pos ⟨rfl, q⟩]; exact held_nb 9999 (by decide)
  · rw [if_neg (fun z => q z.2)]; exact w6
theorem WF_low {d : Nat → Int32} (w : WF d) {k : Nat} {v : Int32} (hk : (k = 4 ∧ nb v 100000) ∨ k = 1 ∨ (k = 2 ∧ nb v 10) ∨ k = 5 ∨ (k = 3 ∧ nb v 31 ∧ v ≠ 0)) : WF (fun j => if j = k then v else d j) := by
  obtain ⟨w1, w2, w3, w4, w5, w6, w7, w8, w9, w10, w11, w12⟩ := w
  have hk5 : 1 ≤ k ∧ k ≤ 5 := by omega
  have o : ∀ j, j ≠ k → (fun j => if j = k then v else d j) j = d j := fun j hj => if_neg hj
  refine ⟨by rw [o 0 (by omega)]; exact w1, ?_, ?_, ?_, by rw [o 6 (by omega)]; exact w5, by rw [o 7 (by omega)]; exact w6, fun i hi => by rw [o _ (by omega)]; exact w7 i hi, fun i hi => by rw [o _ (by omega)]; exact w8 i hi, fun h hh => ?_, TX_congr (by decide) (fun j hj => o j (by omega)) w10, TX_congr (by decide) (fun j hj => o j (by omega)) w11, fun i hi => by rw [o _ (by omega)]; exact w12 i hi⟩
  · show nb (if 2 = k then v else d 2) 10
    by_cases q : 2 = k
    · rw [if_pos q]; rcases hk with h | h | h | h | h <;> first | exact h.2 | omega
    · rw [if_neg q]; exact w2
  · show nb (if 3 = k then v else d 3) 31 ∧ (if 3 = k then v else d 3) ≠ 0
    by_cases q : 3 = k
    · rw [if_pos q]; rcases hk with h | h | h | h | h <;> first | exact h.2 | omega
    · rw [if_neg q]; exact w3
  · show nb (if 4 = k then v else d 4) 100000
    by_cases q : 4 = k
    · rw [if_pos q]; rcases hk with h | h | h | h | h <;> first | exact h.2 | omega
    · rw [if_neg q]; exact w4
  · exact HWr_eq (fun r hr => show hf (fun j => if j = k then v else d j) h r = hf d h r from if_neg (by omega)) (w9 h hh)
theorem WF_shi {e : Nat → Int32} (w : WF e) : WF (shiF e) := WF_low (WF_ppu w w.n.1 (fun h hh => li_ok w (by have := w.n.1; omega))) (Or.inl ⟨rfl, gl_nb w _⟩)
theorem WF_dy {e : Nat → Int32} (w : WF e) : WF (dyF e) := WF_low w (Or.inr (Or.inl rfl))
theorem sw_ok {e : Nat → Int32} (w : WF e) {h : Nat} (hh : h < 8) : HWr (swp e h) := by
  obtain ⟨w0, w1, w2, w3, w4, w5, w6⟩ := w.hw hh
  unfold HWr swp
  refine ⟨w0, w1, w2, w3, fun z => ?_, fun z => ?_, w6⟩
  · by_cases q : hf e h 3 = 0 ∧ sunM e h = 0
    · rw [if_pos ⟨rfl, q⟩]; exact w2
    · rw [if_neg (fun y => q y.2)]; exact w4 z
  · rw [if_neg (fun y => z y.2.1)]; exact w5 z
theorem WF_sw {e : Nat → Int32} (w : WF e) : WF (swF e) := by
  unfold swF
  by_cases q : irm (e 1) (e 3) = 0
  · rw [if_pos q]; exact WF_ppu w w.n.1 (fun h hh => sw_ok w (by have := w.n.1; omega))
  · rw [if_neg q]; exact w
theorem WF_day {d : Nat → Int32} (w : WF d) : WF (dayF d) := WF_sw (WF_dy (WF_shi (WF_car w)))
