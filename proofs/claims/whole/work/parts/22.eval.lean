/-! what a TEXT gives: the code in the reference's numbers (below 10000 a NUMBER, 10000 and on a NAME, 20000 and on a sign) -/
def opF (s x z : Int32) : Int32 := if s = 38 then bz (x ≠ 0 ∧ z ≠ 0) else if s = 42 then x * z else if s = 43 then x + z else if s = 45 then x - z else if s = 47 then (if z = 0 then 0 else x / z) else if s = 60 then bz (x < z) else if s = 61 then bz (x = z) else if s = 62 then bz (z < x) else if s = 124 then bz (x ≠ 0 ∨ z ≠ 0) else (if z = 0 then 0 else irm x z)
def vlF (s a b c : Int32) : Int32 := if s < 256 then (if s = 0 then a else if s = 1 then b else c) else s - 256
def tokV (a b c x : Int32) : Int32 := if x < 10000 then x else if x = 10000 then a else if x = 10001 then b else c
def encT (x : Int32) : Int32 := if x < 10000 then x + 256 else if x < 20000 then x - 10000 else x - 20000
def stepE (a b c x : Int32) (st : List Int32) : List Int32 := if x < 20000 then tokV a b c x :: st else if x = 20033 then (match st with
  | z :: r => bz (z = 0) :: r
  | [] => []) else (match st with
  | z :: w :: r => opF (x - 20000) w z :: r
  | r => r)
def runE (a b c : Int32) (code : Nat → Int32) : Nat → List Int32
  | 0 => []
  | n + 1 => stepE a b c (code n) (runE a b c code n)
def dep (code : Nat → Int32) : Nat → Nat
  | 0 => 0
  | n + 1 => if code n < 20000 then dep code n + 1 else if code n = 20033 then dep code n else dep code n - 1
def tokOK (x : Int32) (dp : Nat) : Prop := (∃ k : Nat, k < 10003 ∧ x = nI k) ∨ (x = 20033 ∧ 1 ≤ dp) ∨ ((∃ k : Nat, 3 ≤ k ∧ k < 256 ∧ k ≠ 33 ∧ x = nI (20000 + k)) ∧ 2 ≤ dp)
def wfC (code : Nat → Int32) (n : Nat) : Prop := ∀ k, k < n → tokOK (code k) (dep code k)
def evalF (code : Nat → Int32) (n : Nat) (a b c : Int32) : Int32 := (runE a b c code n).getLastD 0
def heldF (v lo hi : Int32) : Int32 := if v < lo then lo else if hi < v then hi else v
def textG (d : Nat → Int32) (u : Nat) (a b c : Int32) : Int32 := heldF (if 0 < d (88 + u) then evalF (fun j => d (110 + 50 * u + j)) (d (88 + u)).toNatClampNeg a b c else a) 0 (if u = 0 then 9 else 99)
def PS (p : Nat → Int32) : List Int32 → Prop
  | [] => True
  | z :: r => p r.length = z ∧ PS p r
theorem PS_up {p p' : Nat → Int32} : ∀ {st : List Int32}, (∀ j, j < st.length → p' j = p j) → PS p st → PS p' st
  | [], _, _ => trivial
  | z :: r, h, ⟨h1, h2⟩ => ⟨(h r.length (by simp)).trans h1, PS_up (fun j hj => h j (by simp; omega)) h2⟩
theorem PS_last {p : Nat → Int32} : ∀ {st : List Int32}, st ≠ [] → PS p st → p 0 = st.getLastD 0
  | [], h, _ => absurd rfl h
  | [z], _, h => h.1
  | z :: w :: r, _, h => by
    have := PS_last (st := w :: r) (by simp) h.2
    rw [this]
    rfl
theorem dep_le (code : Nat → Int32) : ∀ n, dep code n ≤ n
  | 0 => Nat.le_refl _
  | n + 1 => by
    have := dep_le code n
    unfold dep
    split
    · omega
    · split <;> omega
theorem n20 {k : Nat} (h : k < 10003) : nI k < 20000 := nI_lt (a := k) (b := 20000) (by omega) (by decide)
theorem n20' {k : Nat} (h : k < 256) : ¬ nI (20000 + k) < 20000 := nI_nlt (a := 20000 + k) (b := 20000) (by omega) (by omega)
theorem n33 {k : Nat} (h : k < 256) (h3 : k ≠ 33) : ¬ nI (20000 + k) = 20033 := fun q => h3 (by
  have := (nI_eq (a := 20000 + k) (b := 20033) (by omega) (by omega)).mp q
  omega)
theorem runE_len {a b c : Int32} {code : Nat → Int32} : ∀ {n : Nat}, wfC code n → (runE a b c code n).length = dep code n
  | 0, _ => rfl
  | n + 1, h => by
    have ih := runE_len (a := a) (b := b) (c := c) (n := n) (fun k hk => h k (by omega))
    show (stepE a b c (code n) (runE a b c code n)).length = dep code (n + 1)
    unfold stepE dep
    rcases h n (by omega) with ⟨k, hk, e⟩ | ⟨e, h1⟩ | ⟨⟨k, h3, hk, hne, e⟩, h2⟩
    · rw [if_pos (by rw [e]; exact n20 hk), if_pos (by rw [e]; exact n20 hk), List.length_cons, ih]
    · have hA : ¬ code n < 20000 := by rw [e]; decide
      rw [if_neg hA, if_neg hA, if_pos e, if_pos e]
      rw [← ih] at h1 ⊢
      match runE a b c code n, h1 with
      | z :: r, _ => rfl
    · have hA : ¬ code n < 20000 := by rw [e]; exact n20' hk
      have hB : ¬ code n = 20033 := by rw [e]; exact n33 hk hne
      rw [if_neg hA, if_neg hA, if_neg hB, if_neg hB]
      rw [← ih] at h2 ⊢
      match runE a b c code n, h2 with
      | z :: w :: r, _ => rfl
theorem dep_pos {code : Nat → Int32} : ∀ {n : Nat}, wfC code (n + 1) → 1 ≤ dep code (n + 1)
  | 0, h => by
    unfold dep
    rcases h 0 (by omega) with ⟨k, hk, e⟩ | ⟨e, h1⟩ | ⟨_, h2⟩
    · rw [if_pos (by rw [e]; exact n20 hk)]; exact Nat.succ_pos _
    · exact absurd h1 (Nat.not_succ_le_zero 0)
    · exact absurd h2 (Nat.not_succ_le_zero 1)
  | n + 1, h => by
    have ih := dep_pos (n := n) (fun k hk => h k (by omega))
    unfold dep
    rcases h (n + 1) (by omega) with ⟨k, hk, e⟩ | ⟨e, h1⟩ | ⟨⟨k, h3, hk, hne, e⟩, h2⟩
    · rw [if_pos (by rw [e]; exact n20 hk)]; exact Nat.succ_pos _
    · have hA : ¬ code (n + 1) < 20000 := by rw [e]; decide
      rw [if_neg hA, if_pos e]; exact ih
    · have hA : ¬ code (n + 1) < 20000 := by rw [e]; exact n20' hk
      have hB : ¬ code (n + 1) = 20033 := by rw [e]; exact n33 hk hne
      rw [if_neg hA, if_neg hB]; omega
theorem vlF_enc {a b c : Int32} {k : Nat} (hk : k < 10003) : vlF (encT (nI k)) a b c = tokV a b c (nI k) := by
  unfold vlF encT tokV
  by_cases h : k < 10000
  · have e : nI k < 10000 := nI_lt (a := k) (b := 10000) h (by decide)
    have e2 : nI k + 256 = nI (k + 256) := nI_add k 256
    rw [if_pos e, if_pos e, e2, if_neg (show ¬ nI (k + 256) < 256 from nI_nlt (a := k + 256) (b := 256) (by omega) (by omega))]
    have e3 := pk_sub (a := k + 256) (b := 256) (by omega)
    rw [Nat.add_sub_cancel] at e3
    exact e3
  · have e : ¬ nI k < 10000 := nI_nlt (a := k) (b := 10000) (by omega) (by omega)
    rw [if_neg e, if_neg e, if_pos (n20 hk)]
    rcases (show k = 10000 ∨ k = 10001 ∨ k = 10002 by omega) with rfl | rfl | rfl <;> rfl
section EV
variable {l : Launch} {g : Gv}
set_option maxRecDepth 100000 in
theorem c_joined (m : Mem) (s x z : Int32) : JM l g 0 mX6_joined [.int s, .int x, .int z] m (RF (some (.int (opF s x z))) m) := by
  refine JM_of (ls := [some (.int s), some (.int x), some (.int z)]) pn_X6 rfl rfl ?_
  refine j_iload0 1 dX6_joined_0 rfl ?_
  by_cases h1_38 : s = 38
  · refine j_lookup 98 dX6_joined_1 rfl (by rw [h1_38] <;> rfl) rfl ?_
    refine j_iload1 99 dX6_joined_98 rfl ?_
    refine j_if_eq 110 102 dX6_joined_99 rfl rfl (fun h99 => ?_) (fun h99 => ?_)
    · refine j_iconst 111 (v := 0) dX6_joined_110 rfl rfl ?_
      refine j_iret dX6_joined_111 rfl ?_
      exact rf_e (by simp [opF, bz, *])
    · refine j_iload2 103 dX6_joined_102 rfl ?_
      refine j_if_eq 110 106 dX6_joined_103 rfl rfl (fun h103 => ?_) (fun h103 => ?_)
      · refine j_iconst 111 (v := 0) dX6_joined_110 rfl rfl ?_
        refine j_iret dX6_joined_111 rfl ?_
        exact rf_e (by simp [opF, bz, *])
      · refine j_iconst 107 (v := 1) dX6_joined_106 rfl rfl ?_
        refine j_goto 111 dX6_joined_107 rfl ?_
        refine j_iret dX6_joined_111 rfl ?_
        exact rf_e (by simp [opF, bz, *])
  by_cases h1_42 : s = 42
  · refine j_lookup 153 dX6_joined_1 rfl (by rw [h1_42] <;> rfl) rfl ?_
    refine j_iload1 154 dX6_joined_153 rfl ?_
    refine j_iload2 155 dX6_joined_154 rfl ?_
    refine j_imul 156 dX6_joined_155 rfl ?_
    refine j_iret dX6_joined_156 rfl ?_
    exact rf_e (by simp [opF, bz, *])
  by_cases h1_43 : s = 43
  · refine j_lookup 145 dX6_joined_1 rfl (by rw [h1_43] <;> rfl) rfl ?_
    refine j_iload1 146 dX6_joined_145 rfl ?_
    refine j_iload2 147 dX6_joined_146 rfl ?_
    refine j_iadd 148 dX6_joined_147 rfl ?_
    refine j_iret dX6_joined_148 rfl ?_
    exact rf_e (by simp [opF, bz, *])
  by_cases h1_45 : s = 45
  · refine j_lookup 149 dX6_joined_1 rfl (by rw [h1_45] <;> rfl) rfl ?_
    refine j_iload1 150 dX6_joined_149 rfl ?_
    refine j_iload2 151 dX6_joined_150 rfl ?_
    refine j_isub 152 dX6_joined_151 rfl ?_
    refine j_iret dX6_joined_152 rfl ?_
    exact rf_e (by simp [opF, bz, *])
  by_cases h1_47 : s = 47
  · refine j_lookup 157 dX6_joined_1 rfl (by rw [h1_47] <;> rfl) rfl ?_
    refine j_iload2 158 dX6_joined_157 rfl ?_
    refine j_if_ne 165 161 dX6_joined_158 rfl rfl (fun h158 => ?_) (fun h158 => ?_)
    · refine j_iload1 166 dX6_joined_165 rfl ?_
      refine j_iload2 167 dX6_joined_166 rfl ?_
      refine j_idiv 168 dX6_joined_167 rfl (by assumption) ?_
      refine j_iret dX6_joined_168 rfl ?_
      exact rf_e (by simp [opF, bz, *])
    · refine j_iconst 162 (v := 0) dX6_joined_161 rfl rfl ?_
      refine j_goto 168 dX6_joined_162 rfl ?_
      refine j_iret dX6_joined_168 rfl ?_
      exact rf_e (by simp [opF, bz, *])
  by_cases h1_60 : s = 60
  · refine j_lookup 112 dX6_joined_1 rfl (by rw [h1_60] <;> rfl) rfl ?_
    refine j_iload1 113 dX6_joined_112 rfl ?_
    refine j_iload2 114 dX6_joined_113 rfl ?_
    refine j_cmp_ge 121 117 dX6_joined_114 rfl rfl (fun h114 => ?_) (fun h114 => ?_)
    · refine j_iconst 122 (v := 0) dX6_joined_121 rfl rfl ?_
      refine j_iret dX6_joined_122 rfl ?_
      exact rf_e (by simp [opF, bz, *])
    · refine j_iconst 118 (v := 1) dX6_joined_117 rfl rfl ?_
      refine j_goto 122 dX6_joined_118 rfl ?_
      refine j_iret dX6_joined_122 rfl ?_
      exact rf_e (by simp [opF, bz, *])
  by_cases h1_61 : s = 61
  · refine j_lookup 123 dX6_joined_1 rfl (by rw [h1_61] <;> rfl) rfl ?_
    refine j_iload1 124 dX6_joined_123 rfl ?_
    refine j_iload2 125 dX6_joined_124 rfl ?_
    refine j_cmp_ne 132 128 dX6_joined_125 rfl rfl (fun h125 => ?_) (fun h125 => ?_)
    · refine j_iconst 133 (v := 0) dX6_joined_132 rfl rfl ?_
      refine j_iret dX6_joined_133 rfl ?_
      exact rf_e (by simp [opF, bz, *])
    · refine j_iconst 129 (v := 1) dX6_joined_128 rfl rfl ?_
      refine j_goto 133 dX6_joined_129 rfl ?_
      refine j_iret dX6_joined_133 rfl ?_
      exact rf_e (by simp [opF, bz, *])
  by_cases h1_62 : s = 62
  · refine j_lookup 134 dX6_joined_1 rfl (by rw [h1_62] <;> rfl) rfl ?_
    refine j_iload1 135 dX6_joined_134 rfl ?_
    refine j_iload2 136 dX6_joined_135 rfl ?_
    refine j_cmp_le 143 139 dX6_joined_136 rfl rfl (fun h136 => ?_) (fun h136 => ?_)
    · refine j_iconst 144 (v := 0) dX6_joined_143 rfl rfl ?_
      refine j_iret dX6_joined_144 rfl ?_
      exact rf_e (by simp [opF, bz, *])
    · refine j_iconst 140 (v := 1) dX6_joined_139 rfl rfl ?_
      refine j_goto 144 dX6_joined_140 rfl ?_
      refine j_iret dX6_joined_144 rfl ?_
      exact rf_e (by simp [opF, bz, *])
  by_cases h1_124 : s = 124
  · refine j_lookup 84 dX6_joined_1 rfl (by rw [h1_124] <;> rfl) rfl ?_
    refine j_iload1 85 dX6_joined_84 rfl ?_
    refine j_if_ne 92 88 dX6_joined_85 rfl rfl (fun h85 => ?_) (fun h85 => ?_)
    · refine j_iconst 93 (v := 1) dX6_joined_92 rfl rfl ?_
      refine j_goto 97 dX6_joined_93 rfl ?_
      refine j_iret dX6_joined_97 rfl ?_
      exact rf_e (by simp [opF, bz, *])
    · refine j_iload2 89 dX6_joined_88 rfl ?_
      refine j_if_eq 96 92 dX6_joined_89 rfl rfl (fun h89 => ?_) (fun h89 => ?_)
      · refine j_iconst 97 (v := 0) dX6_joined_96 rfl rfl ?_
        refine j_iret dX6_joined_97 rfl ?_
        exact rf_e (by simp [opF, bz, *])
      · refine j_iconst 93 (v := 1) dX6_joined_92 rfl rfl ?_
        refine j_goto 97 dX6_joined_93 rfl ?_
        refine j_iret dX6_joined_97 rfl ?_
        exact rf_e (by simp [opF, bz, *])
  refine j_lookup (off := 168) 169 dX6_joined_1 rfl ((lv_osw (a := 38) h1_38 rfl).trans ((lv_osw (a := 42) h1_42 rfl).trans ((lv_osw (a := 43) h1_43 rfl).trans ((lv_osw (a := 45) h1_45 rfl).trans ((lv_osw (a := 47) h1_47 rfl).trans ((lv_osw (a := 60) h1_60 rfl).trans ((lv_osw (a := 61) h1_61 rfl).trans ((lv_osw (a := 62) h1_62 rfl).trans ((lv_osw (a := 124) h1_124 rfl).trans rfl))))))))) rfl ?_
  refine j_iload2 170 dX6_joined_169 rfl ?_
  refine j_if_ne 177 173 dX6_joined_170 rfl rfl (fun h170 => ?_) (fun h170 => ?_)
  · refine j_iload1 178 dX6_joined_177 rfl ?_
    refine j_iload2 179 dX6_joined_178 rfl ?_
    refine j_irm 180 dX6_joined_179 rfl (by assumption) ?_
    refine j_iret dX6_joined_180 rfl ?_
    exact rf_e (by simp [opF, bz, *])
  · refine j_iconst 174 (v := 0) dX6_joined_173 rfl rfl ?_
    refine j_goto 180 dX6_joined_174 rfl ?_
    refine j_iret dX6_joined_180 rfl ?_
    exact rf_e (by simp [opF, bz, *])
set_option maxRecDepth 100000 in
theorem c_done (m : Mem) (s x z : Int32) : JM l g 0 mX12_done [.int s, .int x, .int z] m (RF (some (.int (opF s x z))) m) := by
  refine JM_of (ls := [some (.int s), some (.int x), some (.int z)]) pn_X12 rfl rfl ?_
  refine j_iload0 1 dX12_done_0 rfl ?_
  by_cases h1_38 : s = 38
  · refine j_lookup 98 dX12_done_1 rfl (by rw [h1_38] <;> rfl) rfl ?_
    refine j_iload1 99 dX12_done_98 rfl ?_
    refine j_if_eq 110 102 dX12_done_99 rfl rfl (fun h99 => ?_) (fun h99 => ?_)
    · refine j_iconst 111 (v := 0) dX12_done_110 rfl rfl ?_
      refine j_iret dX12_done_111 rfl ?_
      exact rf_e (by simp [opF, bz, *])
    · refine j_iload2 103 dX12_done_102 rfl ?_
      refine j_if_eq 110 106 dX12_done_103 rfl rfl (fun h103 => ?_) (fun h103 => ?_)
      · refine j_iconst 111 (v := 0) dX12_done_110 rfl rfl ?_
        refine j_iret dX12_done_111 rfl ?_
        exact rf_e (by simp [opF, bz, *])
      · refine j_iconst 107 (v := 1) dX12_done_106 rfl rfl ?_
        refine j_goto 111 dX12_done_107 rfl ?_
        refine j_iret dX12_done_111 rfl ?_
        exact rf_e (by simp [opF, bz, *])
  by_cases h1_42 : s = 42
  · refine j_lookup 153 dX12_done_1 rfl (by rw [h1_42] <;> rfl) rfl ?_
    refine j_iload1 154 dX12_done_153 rfl ?_
    refine j_iload2 155 dX12_done_154 rfl ?_
    refine j_imul 156 dX12_done_155 rfl ?_
    refine j_iret dX12_done_156 rfl ?_
    exact rf_e (by simp [opF, bz, *])
  by_cases h1_43 : s = 43
  · refine j_lookup 145 dX12_done_1 rfl (by rw [h1_43] <;> rfl) rfl ?_
    refine j_iload1 146 dX12_done_145 rfl ?_
    refine j_iload2 147 dX12_done_146 rfl ?_
    refine j_iadd 148 dX12_done_147 rfl ?_
    refine j_iret dX12_done_148 rfl ?_
    exact rf_e (by simp [opF, bz, *])
  by_cases h1_45 : s = 45
  · refine j_lookup 149 dX12_done_1 rfl (by rw [h1_45] <;> rfl) rfl ?_
    refine j_iload1 150 dX12_done_149 rfl ?_
    refine j_iload2 151 dX12_done_150 rfl ?_
    refine j_isub 152 dX12_done_151 rfl ?_
    refine j_iret dX12_done_152 rfl ?_
    exact rf_e (by simp [opF, bz, *])
  by_cases h1_47 : s = 47
  · refine j_lookup 157 dX12_done_1 rfl (by rw [h1_47] <;> rfl) rfl ?_
    refine j_iload2 158 dX12_done_157 rfl ?_
    refine j_if_ne 165 161 dX12_done_158 rfl rfl (fun h158 => ?_) (fun h158 => ?_)
    · refine j_iload1 166 dX12_done_165 rfl ?_
      refine j_iload2 167 dX12_done_166 rfl ?_
      refine j_idiv 168 dX12_done_167 rfl (by assumption) ?_
      refine j_iret dX12_done_168 rfl ?_
      exact rf_e (by simp [opF, bz, *])
    · refine j_iconst 162 (v := 0) dX12_done_161 rfl rfl ?_
      refine j_goto 168 dX12_done_162 rfl ?_
      refine j_iret dX12_done_168 rfl ?_
      exact rf_e (by simp [opF, bz, *])
  by_cases h1_60 : s = 60
  · refine j_lookup 112 dX12_done_1 rfl (by rw [h1_60] <;> rfl) rfl ?_
    refine j_iload1 113 dX12_done_112 rfl ?_
    refine j_iload2 114 dX12_done_113 rfl ?_
    refine j_cmp_ge 121 117 dX12_done_114 rfl rfl (fun h114 => ?_) (fun h114 => ?_)
    · refine j_iconst 122 (v := 0) dX12_done_121 rfl rfl ?_
      refine j_iret dX12_done_122 rfl ?_
      exact rf_e (by simp [opF, bz, *])
    · refine j_iconst 118 (v := 1) dX12_done_117 rfl rfl ?_
      refine j_goto 122 dX12_done_118 rfl ?_
      refine j_iret dX12_done_122 rfl ?_
      exact rf_e (by simp [opF, bz, *])
  by_cases h1_61 : s = 61
  · refine j_lookup 123 dX12_done_1 rfl (by rw [h1_61] <;> rfl) rfl ?_
    refine j_iload1 124 dX12_done_123 rfl ?_
    refine j_iload2 125 dX12_done_124 rfl ?_
    refine j_cmp_ne 132 128 dX12_done_125 rfl rfl (fun h125 => ?_) (fun h125 => ?_)
    · refine j_iconst 133 (v := 0) dX12_done_132 rfl rfl ?_
      refine j_iret dX12_done_133 rfl ?_
      exact rf_e (by simp [opF, bz, *])
    · refine j_iconst 129 (v := 1) dX12_done_128 rfl rfl ?_
      refine j_goto 133 dX12_done_129 rfl ?_
      refine j_iret dX12_done_133 rfl ?_
      exact rf_e (by simp [opF, bz, *])
  by_cases h1_62 : s = 62
  · refine j_lookup 134 dX12_done_1 rfl (by rw [h1_62] <;> rfl) rfl ?_
    refine j_iload1 135 dX12_done_134 rfl ?_
    refine j_iload2 136 dX12_done_135 rfl ?_
    refine j_cmp_le 143 139 dX12_done_136 rfl rfl (fun h136 => ?_) (fun h136 => ?_)
    · refine j_iconst 144 (v := 0) dX12_done_143 rfl rfl ?_
      refine j_iret dX12_done_144 rfl ?_
      exact rf_e (by simp [opF, bz, *])
    · refine j_iconst 140 (v := 1) dX12_done_139 rfl rfl ?_
      refine j_goto 144 dX12_done_140 rfl ?_
      refine j_iret dX12_done_144 rfl ?_
      exact rf_e (by simp [opF, bz, *])
  by_cases h1_124 : s = 124
  · refine j_lookup 84 dX12_done_1 rfl (by rw [h1_124] <;> rfl) rfl ?_
    refine j_iload1 85 dX12_done_84 rfl ?_
    refine j_if_ne 92 88 dX12_done_85 rfl rfl (fun h85 => ?_) (fun h85 => ?_)
    · refine j_iconst 93 (v := 1) dX12_done_92 rfl rfl ?_
      refine j_goto 97 dX12_done_93 rfl ?_
      refine j_iret dX12_done_97 rfl ?_
      exact rf_e (by simp [opF, bz, *])
    · refine j_iload2 89 dX12_done_88 rfl ?_
      refine j_if_eq 96 92 dX12_done_89 rfl rfl (fun h89 => ?_) (fun h89 => ?_)
      · refine j_iconst 97 (v := 0) dX12_done_96 rfl rfl ?_
        refine j_iret dX12_done_97 rfl ?_
        exact rf_e (by simp [opF, bz, *])
      · refine j_iconst 93 (v := 1) dX12_done_92 rfl rfl ?_
        refine j_goto 97 dX12_done_93 rfl ?_
        refine j_iret dX12_done_97 rfl ?_
        exact rf_e (by simp [opF, bz, *])
  refine j_lookup (off := 168) 169 dX12_done_1 rfl ((lv_osw (a := 38) h1_38 rfl).trans ((lv_osw (a := 42) h1_42 rfl).trans ((lv_osw (a := 43) h1_43 rfl).trans ((lv_osw (a := 45) h1_45 rfl).trans ((lv_osw (a := 47) h1_47 rfl).trans ((lv_osw (a := 60) h1_60 rfl).trans ((lv_osw (a := 61) h1_61 rfl).trans ((lv_osw (a := 62) h1_62 rfl).trans ((lv_osw (a := 124) h1_124 rfl).trans rfl))))))))) rfl ?_
  refine j_iload2 170 dX12_done_169 rfl ?_
  refine j_if_ne 177 173 dX12_done_170 rfl rfl (fun h170 => ?_) (fun h170 => ?_)
  · refine j_iload1 178 dX12_done_177 rfl ?_
    refine j_iload2 179 dX12_done_178 rfl ?_
    refine j_irm 180 dX12_done_179 rfl (by assumption) ?_
    refine j_iret dX12_done_180 rfl ?_
    exact rf_e (by simp [opF, bz, *])
  · refine j_iconst 174 (v := 0) dX12_done_173 rfl rfl ?_
    refine j_goto 180 dX12_done_174 rfl ?_
    refine j_iret dX12_done_180 rfl ?_
    exact rf_e (by simp [opF, bz, *])
set_option maxRecDepth 100000 in
theorem c_valueOf (m : Mem) (s a b c : Int32) : JM l g 0 mX6_valueOf [.int s, .int a, .int b, .int c] m (RF (some (.int (vlF s a b c))) m) := by
  refine JM_of (ls := [some (.int s), some (.int a), some (.int b), some (.int c)]) pn_X6 rfl rfl ?_
  refine j_iload0 1 dX6_valueOf_0 rfl ?_
  refine j_sipush 4 (v := 256) dX6_valueOf_1 rfl rfl ?_
  refine j_cmp_lt 13 7 dX6_valueOf_4 rfl rfl (fun h4 => ?_) (fun h4 => ?_)
  · refine j_iload0 14 dX6_valueOf_13 rfl ?_
    refine j_if_ne 21 17 dX6_valueOf_14 rfl rfl (fun h14 => ?_) (fun h14 => ?_)
    · refine j_iload0 22 dX6_valueOf_21 rfl ?_
      refine j_iconst 23 (v := 1) dX6_valueOf_22 rfl rfl ?_
      refine j_cmp_ne 30 26 dX6_valueOf_23 rfl rfl (fun h23 => ?_) (fun h23 => ?_)
      · refine j_iload3 31 dX6_valueOf_30 rfl ?_
        refine j_iret dX6_valueOf_31 rfl ?_
        exact rf_e (by simp [vlF, *])
      · refine j_iload2 27 dX6_valueOf_26 rfl ?_
        refine j_goto 31 dX6_valueOf_27 rfl ?_
        refine j_iret dX6_valueOf_31 rfl ?_
        exact rf_e (by simp [vlF, *])
    · refine j_iload1 18 dX6_valueOf_17 rfl ?_
      refine j_goto 31 dX6_valueOf_18 rfl ?_
      refine j_iret dX6_valueOf_31 rfl ?_
      exact rf_e (by simp [vlF, *])
  · refine j_iload0 8 dX6_valueOf_7 rfl ?_
    refine j_sipush 11 (v := 256) dX6_valueOf_8 rfl rfl ?_
    refine j_isub 12 dX6_valueOf_11 rfl ?_
    refine j_iret dX6_valueOf_12 rfl ?_
    exact rf_e (by simp [vlF, *])
set_option maxRecDepth 100000 in
theorem c_held (m : Mem) (v a b : Int32) : JM l g 0 mX12_held [.int v, .int a, .int b] m (RF (some (.int (heldF v a b))) m) := by
  refine JM_of (ls := [some (.int v), some (.int a), some (.int b)]) pn_X12 rfl rfl ?_
  refine j_iload0 1 dX12_held_0 rfl ?_
  refine j_iload1 2 dX12_held_1 rfl ?_
  refine j_cmp_ge 9 5 dX12_held_2 rfl rfl (fun h2 => ?_) (fun h2 => ?_)
  · refine j_iload0 10 dX12_held_9 rfl ?_
    refine j_iload2 11 dX12_held_10 rfl ?_
    refine j_cmp_le 18 14 dX12_held_11 rfl rfl (fun h11 => ?_) (fun h11 => ?_)
    · refine j_iload0 19 dX12_held_18 rfl ?_
      refine j_iret dX12_held_19 rfl ?_
      first | exact rf_e (by rw [heldF, if_pos (Int32.not_le.mp h2)]) | exact rf_e (by rw [heldF, if_neg (Int32.not_lt.mpr h2), if_pos (Int32.not_le.mp h11)]) | exact rf_e (by rw [heldF, if_neg (Int32.not_lt.mpr h2), if_neg (Int32.not_lt.mpr h11)])
    · refine j_iload2 15 dX12_held_14 rfl ?_
      refine j_goto 19 dX12_held_15 rfl ?_
      refine j_iret dX12_held_19 rfl ?_
      first | exact rf_e (by rw [heldF, if_pos (Int32.not_le.mp h2)]) | exact rf_e (by rw [heldF, if_neg (Int32.not_lt.mpr h2), if_pos (Int32.not_le.mp h11)]) | exact rf_e (by rw [heldF, if_neg (Int32.not_lt.mpr h2), if_neg (Int32.not_lt.mpr h11)])
  · refine j_iload1 6 dX12_held_5 rfl ?_
    refine j_goto 19 dX12_held_6 rfl ?_
    refine j_iret dX12_held_19 rfl ?_
    first | exact rf_e (by rw [heldF, if_pos (Int32.not_le.mp h2)]) | exact rf_e (by rw [heldF, if_neg (Int32.not_lt.mpr h2), if_pos (Int32.not_le.mp h11)]) | exact rf_e (by rw [heldF, if_neg (Int32.not_lt.mpr h2), if_neg (Int32.not_lt.mpr h11)])
theorem stepE_A {a b c x : Int32} {st : List Int32} (h : x < 20000) : stepE a b c x st = tokV a b c x :: st := by unfold stepE; rw [if_pos h]
theorem stepE_B {a b c z : Int32} {r : List Int32} : stepE a b c 20033 (z :: r) = bz (z = 0) :: r := rfl
theorem stepE_C {a b c x z w : Int32} {r : List Int32} (h : ¬ x < 20000) (h3 : ¬ x = 20033) : stepE a b c x (z :: w :: r) = opF (x - 20000) w z :: r := by unfold stepE; rw [if_neg h, if_neg h3]
theorem up2_cell {m : Mem} {a k j : Nat} {v : Int32} : up2 m a k v a j = if j = k then v else m a j := by
  unfold up2
  by_cases h : j = k
  · rw [if_pos ⟨rfl, h⟩, if_pos h]
  · rw [if_neg (fun q => h q.2), if_neg h]
theorem PS_put {m : Mem} {a : Nat} {st : List Int32} {v : Int32} {k : Nat} (hk : st.length = k) (h : PS (m a) st) : PS (up2 m a k v a) (v :: st) := by
  subst hk
  exact ⟨by rw [up2_cell, if_pos rfl], PS_up (fun j hj => by rw [up2_cell, if_neg (by omega)]) h⟩
set_option maxRecDepth 100000 in
theorem lp_worked_39 {Q : Option Value → Mem → Prop} (code : Nat → Int32) (n : Nat) (a b c : Int32) (hn : n ≤ 50) (hw : wfC code n) : ∀ (k i : Nat) (m : Mem) (o : Option Value), i + k = n → m 39 3 = nI n → (∀ j, j < n → m 40 j = encT (code j)) → PS (m 41) (runE a b c code i) → (∀ m', Sm [41] m m' → PS (m' 41) (runE a b c code n) → Q (some (.int (m' 41 0))) m') → J l g 1 mX6_workedOut 6 [some (rf g 39), some (.int a), some (.int b), some (.int c), some (.int (nI (dep code i))), some (.int (nI i)), o] [] m Q := by
  intro k
  induction k with
  | zero =>
    intro i m o hi hs hc hp hq
    have e : i = n := by omega
    subst e
    refine j_iload5 8 dX6_workedOut_6 rfl ?_
    refine j_aload0 9 dX6_workedOut_8 rfl ?_
    refine j_getI 12 dX6_workedOut_9 rfl fl_X6_29 rfl rfl ?_
    refine j_cmp_ge 152 15 dX6_workedOut_12 rfl rfl (fun h12 => ?_) (fun h12 => absurd (by rw [hs]; exact Int32.le_refl _) h12)
    refine j_aload0 153 dX6_workedOut_152 rfl ?_
    refine j_getR 156 dX6_workedOut_153 rfl fl_X6_15 rfl rfl ?_
    refine j_iconst 157 (v := 0) dX6_workedOut_156 rfl rfl ?_
    refine j_iald 158 0 rfl (by first | assumption | decide | omega) dX6_workedOut_157 rfl rfl ?_
    refine j_iret dX6_workedOut_158 rfl ?_
    exact hq m Sm.rf hp
  | succ k ih =>
    intro i m o hi hs hc hp hq
    have hd : dep code i ≤ i := dep_le code i
    have hl := runE_len (a := a) (b := b) (c := c) (n := i) (fun j hj => hw j (by omega))
    have htok := hw i (by omega)
    have e2 : nI i + 1 = nI (i + 1) := nI_1 i
    refine j_iload5 8 dX6_workedOut_6 rfl ?_
    refine j_aload0 9 dX6_workedOut_8 rfl ?_
    refine j_getI 12 dX6_workedOut_9 rfl fl_X6_29 rfl rfl ?_
    refine j_cmp_ge 152 15 dX6_workedOut_12 rfl rfl (fun h12 => absurd h12 (by rw [hs]; exact nI_ge (by omega) (by omega))) (fun h12 => ?_)
    refine j_aload0 16 dX6_workedOut_15 rfl ?_
    refine j_getR 19 dX6_workedOut_16 rfl fl_X6_9 rfl rfl ?_
    refine j_iload5 21 dX6_workedOut_19 rfl ?_
    refine j_iald 22 _ rfl (show i < 50 by omega) dX6_workedOut_21 rfl rfl ?_
    refine j_top (hc i (by omega)) ?_
    refine j_istore6 24 dX6_workedOut_22 rfl rfl rfl ?_
    rcases htok with ⟨x, hx, ex⟩ | ⟨ex, h1⟩ | ⟨⟨x, h3, hx, hne, ex⟩, h2⟩
    · have hstep : runE a b c code (i + 1) = tokV a b c (code i) :: runE a b c code i := stepE_A (by rw [ex]; exact n20 hx)
      have hdep : dep code (i + 1) = dep code i + 1 := if_pos (by rw [ex]; exact n20 hx)
      have e1 : nI (dep code i) + 1 = nI (dep code (i + 1)) := by rw [hdep]; exact nI_1 _
      have key : J l g 1 mX6_workedOut 38 [some (rf g 39), some (.int a), some (.int b), some (.int c), some (.int (nI (dep code i))), some (.int (nI i)), some (.int (encT (code i)))] [] m Q := by
        refine j_iload4 40 dX6_workedOut_38 rfl ?_
        refine j_bipush 42 (v := 50) dX6_workedOut_40 rfl rfl ?_
        refine j_cmp_ge 146 45 dX6_workedOut_42 rfl rfl (fun h42 => absurd h42 (show ¬ (50 : Int32) ≤ nI (dep code i) from nI_ge (a := dep code i) (b := 50) (by omega) (by decide))) (fun h42 => ?_)
        refine j_aload0 46 dX6_workedOut_45 rfl ?_
        refine j_getR 49 dX6_workedOut_46 rfl fl_X6_15 rfl rfl ?_
        refine j_iload4 51 dX6_workedOut_49 rfl ?_
        refine j_iload6 53 dX6_workedOut_51 rfl ?_
        refine j_iload1 54 dX6_workedOut_53 rfl ?_
        refine j_iload2 55 dX6_workedOut_54 rfl ?_
        refine j_iload3 56 dX6_workedOut_55 rfl ?_
        refine j_st4f 59 dX6_workedOut_56 rfl rfl cl_X6_55 rfl (c_valueOf m _ a b c) ?_
        refine j_iast 60 _ rfl (show dep code i < 50 by omega) dX6_workedOut_59 rfl rfl ?_
        refine j_iinc4 63 (1) dX6_workedOut_60 rfl rfl rfl rfl ?_
        refine j_goto 146 dX6_workedOut_63 rfl ?_
        refine j_iinc5 149 (1) dX6_workedOut_146 rfl rfl rfl rfl ?_
        refine j_goto 6 dX6_workedOut_149 rfl ?_
        rw [e1, e2, show vlF (encT (code i)) a b c = tokV a b c (code i) by rw [ex]; exact vlF_enc hx]
        exact ih (i + 1) _ _ (by omega) (by rw [up2_a (by decide)]; exact hs) (fun j hj => by rw [up2_a (by decide)]; exact hc j hj) (by rw [hstep]; exact PS_put hl hp) (fun m' s1 p1 => hq m' ((Sm.up Sm.rf (by decide)).trans s1) p1)
      by_cases hx2 : x < 10000
      · have ee : encT (code i) = nI (x + 256) := by rw [ex]; unfold encT; rw [if_pos (show nI x < 10000 from nI_lt (a := x) (b := 10000) hx2 (by decide))]; exact nI_add x 256
        refine j_iload6 26 dX6_workedOut_24 rfl ?_
        refine j_sipush 29 (v := 256) dX6_workedOut_26 rfl rfl ?_
        refine j_cmp_ge 38 32 dX6_workedOut_29 rfl rfl (fun h29 => ?_) (fun h29 => absurd (by rw [ee]; exact nI_le (a := 256) (b := x + 256) (by omega) (by omega)) h29)
        exact key
      · have ee : encT (code i) = nI (x - 10000) := by
          rw [ex]; unfold encT
          rw [if_neg (show ¬ nI x < 10000 from nI_nlt (a := x) (b := 10000) (by omega) (by omega)), if_pos (n20 hx)]
          exact pk_sub (a := x) (b := 10000) (by omega)
        refine j_iload6 26 dX6_workedOut_24 rfl ?_
        refine j_sipush 29 (v := 256) dX6_workedOut_26 rfl rfl ?_
        refine j_cmp_ge 38 32 dX6_workedOut_29 rfl rfl (fun h29 => absurd h29 (by rw [ee]; exact nI_ge (a := x - 10000) (b := 256) (by omega) (by decide))) (fun h29 => ?_)
        refine j_iload6 34 dX6_workedOut_32 rfl ?_
        refine j_iconst 35 (v := 2) dX6_workedOut_34 rfl rfl ?_
        refine j_cmp_gt 66 38 dX6_workedOut_35 rfl rfl (fun h35 => absurd h35 (by rw [ee]; exact nI_nlt (a := 2) (b := x - 10000) (by omega) (by decide))) (fun h35 => ?_)
        exact key
    · have hdep : dep code (i + 1) = dep code i := by show (if code i < 20000 then _ else _) = _; rw [if_neg (by rw [ex]; decide), if_pos ex]
      obtain ⟨z, r, hzr⟩ : ∃ z r, runE a b c code i = z :: r := by
        match hh : runE a b c code i with
        | z :: r => exact ⟨z, r, rfl⟩
        | [] => rw [hh] at hl; simp at hl; omega
      have hstep : runE a b c code (i + 1) = bz (z = 0) :: r := by show stepE a b c (code i) (runE a b c code i) = _; rw [ex, hzr]; rfl
      rw [hzr] at hp hl
      have hl : r.length + 1 = dep code i := by simpa using hl
      have hz : m 41 (dep code i - 1) = z := by rw [← hp.1, ← hl]; rfl
      have ed : nI (dep code i) - 1 = nI (dep code i - 1) := pk_sub (b := 1) h1
      have fin : ∀ v : Int32, v = bz (z = 0) → J l g 1 mX6_workedOut 6 [some (rf g 39), some (.int a), some (.int b), some (.int c), some (.int (nI (dep code i))), some (.int (nI i + 1)), some (.int (encT (code i)))] [] (up2 m 41 (dep code i - 1) v) Q := by
        intro v hv
        rw [← hdep, e2]
        exact ih (i + 1) _ _ (by omega) (by rw [up2_a (by decide)]; exact hs) (fun j hj => by rw [up2_a (by decide)]; exact hc j hj) (by rw [hstep, hv, hdep]; exact PS_put (by omega) hp.2) (fun m' s1 p1 => hq m' ((Sm.up Sm.rf (by decide)).trans s1) p1)
      refine j_iload6 26 dX6_workedOut_24 rfl ?_
      refine j_sipush 29 (v := 256) dX6_workedOut_26 rfl rfl ?_
      refine j_cmp_ge 38 32 dX6_workedOut_29 rfl rfl (fun h29 => absurd h29 (by rw [ex]; decide)) (fun h29 => ?_)
      refine j_iload6 34 dX6_workedOut_32 rfl ?_
      refine j_iconst 35 (v := 2) dX6_workedOut_34 rfl rfl ?_
      refine j_cmp_gt 66 38 dX6_workedOut_35 rfl rfl (fun h35 => ?_) (fun h35 => absurd (by rw [ex]; decide) h35)
      refine j_iload6 68 dX6_workedOut_66 rfl ?_
      refine j_bipush 70 (v := 33) dX6_workedOut_68 rfl rfl ?_
      refine j_cmp_ne 107 73 dX6_workedOut_70 rfl rfl (fun h70 => absurd h70 (fun q => q (by rw [ex]; decide))) (fun h70 => ?_)
      refine j_iload4 75 dX6_workedOut_73 rfl ?_
      refine j_if_le 146 78 dX6_workedOut_75 rfl rfl (fun h75 => absurd h75 (fun q => absurd q (Int32.not_le.mpr (nI_lt (a := 0) (b := dep code i) h1 (by omega))))) (fun h75 => ?_)
      refine j_aload0 79 dX6_workedOut_78 rfl ?_
      refine j_getR 82 dX6_workedOut_79 rfl fl_X6_15 rfl rfl ?_
      refine j_iload4 84 dX6_workedOut_82 rfl ?_
      refine j_iconst 85 (v := 1) dX6_workedOut_84 rfl rfl ?_
      refine j_isub 86 dX6_workedOut_85 rfl ?_
      refine j_top ed ?_
      refine j_aload0 87 dX6_workedOut_86 rfl ?_
      refine j_getR 90 dX6_workedOut_87 rfl fl_X6_15 rfl rfl ?_
      refine j_iload4 92 dX6_workedOut_90 rfl ?_
      refine j_iconst 93 (v := 1) dX6_workedOut_92 rfl rfl ?_
      refine j_isub 94 dX6_workedOut_93 rfl ?_
      refine j_top ed ?_
      refine j_iald 95 _ rfl (show dep code i - 1 < 50 by omega) dX6_workedOut_94 rfl rfl ?_
      refine j_top hz ?_
      refine j_if_ne 102 98 dX6_workedOut_95 rfl rfl (fun h95 => ?_) (fun h95 => ?_)
      · refine j_iconst 103 (v := 0) dX6_workedOut_102 rfl rfl ?_
        refine j_iast 104 _ rfl (show dep code i - 1 < 50 by omega) dX6_workedOut_103 rfl rfl ?_
        refine j_goto 146 dX6_workedOut_104 rfl ?_
        refine j_iinc5 149 (1) dX6_workedOut_146 rfl rfl rfl rfl ?_
        refine j_goto 6 dX6_workedOut_149 rfl ?_
        first | exact fin _ (bz_f h95).symm | exact fin _ (bz_t h95).symm
      · refine j_iconst 99 (v := 1) dX6_workedOut_98 rfl rfl ?_
        refine j_goto 103 dX6_workedOut_99 rfl ?_
        refine j_iast 104 _ rfl (show dep code i - 1 < 50 by omega) dX6_workedOut_103 rfl rfl ?_
        refine j_goto 146 dX6_workedOut_104 rfl ?_
        refine j_iinc5 149 (1) dX6_workedOut_146 rfl rfl rfl rfl ?_
        refine j_goto 6 dX6_workedOut_149 rfl ?_
        first | exact fin _ (bz_f h95).symm | exact fin _ (bz_t h95).symm
    · have hA : ¬ code i < 20000 := by rw [ex]; exact n20' hx
      have hB : ¬ code i = 20033 := by rw [ex]; exact n33 hx hne
      have hdep : dep code (i + 1) = dep code i - 1 := by show (if code i < 20000 then _ else _) = _; rw [if_neg hA, if_neg hB]
      have ee : encT (code i) = nI x := by
        rw [ex]; unfold encT
        rw [if_neg (show ¬ nI (20000 + x) < 10000 from nI_nlt (a := 20000 + x) (b := 10000) (by omega) (by omega)), if_neg (n20' hx)]
        have := pk_sub (a := 20000 + x) (b := 20000) (by omega)
        rw [show (20000 + x - 20000) = x by omega] at this
        exact this
      have ee2 : code i - 20000 = encT (code i) := by rw [ee, ex]; have := pk_sub (a := 20000 + x) (b := 20000) (by omega); rw [show (20000 + x - 20000) = x by omega] at this; exact this
      obtain ⟨z, w, r, hzr⟩ : ∃ z w r, runE a b c code i = z :: w :: r := by
        match hh : runE a b c code i with
        | z :: w :: r => exact ⟨z, w, r, rfl⟩
        | [z] => rw [hh] at hl; simp at hl; omega
        | [] => rw [hh] at hl; simp at hl; omega
      have hstep : runE a b c code (i + 1) = opF (encT (code i)) w z :: r := by show stepE a b c (code i) (runE a b c code i) = _; rw [hzr, stepE_C hA hB, ee2]
      rw [hzr] at hp hl
      have hl : r.length + 2 = dep code i := by simpa using hl
      have hz : m 41 (dep code i - 1) = z := by rw [← hp.1, ← hl]; rfl
      have hw2 : m 41 (dep code i - 1 - 1) = w := by rw [← hp.2.1, ← hl]; rfl
      have e4 : nI (dep code i) + -1 = nI (dep code i - 1) := by have := pk_m1 (dep code i - 1); rw [show dep code i - 1 + 1 = dep code i by omega] at this; exact this
      have e5 : nI (dep code i - 1) - 1 = nI (dep code i - 1 - 1) := pk_sub (b := 1) (by omega)
      refine j_iload6 26 dX6_workedOut_24 rfl ?_
      refine j_sipush 29 (v := 256) dX6_workedOut_26 rfl rfl ?_
      refine j_cmp_ge 38 32 dX6_workedOut_29 rfl rfl (fun h29 => absurd h29 (by rw [ee]; exact nI_ge (a := x) (b := 256) (by omega) (by decide))) (fun h29 => ?_)
      refine j_iload6 34 dX6_workedOut_32 rfl ?_
      refine j_iconst 35 (v := 2) dX6_workedOut_34 rfl rfl ?_
      refine j_cmp_gt 66 38 dX6_workedOut_35 rfl rfl (fun h35 => ?_) (fun h35 => absurd (by rw [ee]; exact nI_lt (a := 2) (b := x) (by omega) (by omega)) h35)
      refine j_iload6 68 dX6_workedOut_66 rfl ?_
      refine j_bipush 70 (v := 33) dX6_workedOut_68 rfl rfl ?_
      refine j_cmp_ne 107 73 dX6_workedOut_70 rfl rfl (fun h70 => ?_) (fun h70 => absurd h70 (by rw [ee]; exact fun q => hne ((nI_eq (a := x) (b := 33) (by omega) (by decide)).mp q)))
      refine j_iload4 109 dX6_workedOut_107 rfl ?_
      refine j_iconst 110 (v := 1) dX6_workedOut_109 rfl rfl ?_
      refine j_cmp_le 146 113 dX6_workedOut_110 rfl rfl (fun h110 => absurd h110 (fun q => absurd q (Int32.not_le.mpr (nI_lt (a := 1) (b := dep code i) (by omega) (by omega))))) (fun h110 => ?_)
      refine j_iinc4 116 (-1) dX6_workedOut_113 rfl rfl rfl rfl ?_
      rw [e4]
      refine j_aload0 117 dX6_workedOut_116 rfl ?_
      refine j_getR 120 dX6_workedOut_117 rfl fl_X6_15 rfl rfl ?_
      refine j_iload4 122 dX6_workedOut_120 rfl ?_
      refine j_iconst 123 (v := 1) dX6_workedOut_122 rfl rfl ?_
      refine j_isub 124 dX6_workedOut_123 rfl ?_
      refine j_top e5 ?_
      refine j_iload6 126 dX6_workedOut_124 rfl ?_
      refine j_aload0 127 dX6_workedOut_126 rfl ?_
      refine j_getR 130 dX6_workedOut_127 rfl fl_X6_15 rfl rfl ?_
      refine j_iload4 132 dX6_workedOut_130 rfl ?_
      refine j_iconst 133 (v := 1) dX6_workedOut_132 rfl rfl ?_
      refine j_isub 134 dX6_workedOut_133 rfl ?_
      refine j_top e5 ?_
      refine j_iald 135 _ rfl (show dep code i - 1 - 1 < 50 by omega) dX6_workedOut_134 rfl rfl ?_
      refine j_top hw2 ?_
      refine j_aload0 136 dX6_workedOut_135 rfl ?_
      refine j_getR 139 dX6_workedOut_136 rfl fl_X6_15 rfl rfl ?_
      refine j_iload4 141 dX6_workedOut_139 rfl ?_
      refine j_iald 142 _ rfl (show dep code i - 1 < 50 by omega) dX6_workedOut_141 rfl rfl ?_
      refine j_top hz ?_
      refine j_st3f 145 dX6_workedOut_142 rfl rfl cl_X6_59 rfl (c_joined m _ w z) ?_
      refine j_iast 146 _ rfl (show dep code i - 1 - 1 < 50 by omega) dX6_workedOut_145 rfl rfl ?_
      refine j_iinc5 149 (1) dX6_workedOut_146 rfl rfl rfl rfl ?_
      refine j_goto 6 dX6_workedOut_149 rfl ?_
      rw [← hdep, e2]
      exact ih (i + 1) _ _ (by omega) (by rw [up2_a (by decide)]; exact hs) (fun j hj => by rw [up2_a (by decide)]; exact hc j hj) (by rw [hstep, hdep]; exact PS_put (by omega) hp.2.2) (fun m' s1 p1 => hq m' ((Sm.up Sm.rf (by decide)).trans s1) p1)
set_option maxRecDepth 100000 in
theorem lp_worked_43 {Q : Option Value → Mem → Prop} (code : Nat → Int32) (n : Nat) (a b c : Int32) (hn : n ≤ 50) (hw : wfC code n) : ∀ (k i : Nat) (m : Mem) (o : Option Value), i + k = n → m 43 3 = nI n → (∀ j, j < n → m 44 j = encT (code j)) → PS (m 45) (runE a b c code i) → (∀ m', Sm [45] m m' → PS (m' 45) (runE a b c code n) → Q (some (.int (m' 45 0))) m') → J l g 1 mX6_workedOut 6 [some (rf g 43), some (.int a), some (.int b), some (.int c), some (.int (nI (dep code i))), some (.int (nI i)), o] [] m Q := by
  intro k
  induction k with
  | zero =>
    intro i m o hi hs hc hp hq
    have e : i = n := by omega
    subst e
    refine j_iload5 8 dX6_workedOut_6 rfl ?_
    refine j_aload0 9 dX6_workedOut_8 rfl ?_
    refine j_getI 12 dX6_workedOut_9 rfl fl_X6_29 rfl rfl ?_
    refine j_cmp_ge 152 15 dX6_workedOut_12 rfl rfl (fun h12 => ?_) (fun h12 => absurd (by rw [hs]; exact Int32.le_refl _) h12)
    refine j_aload0 153 dX6_workedOut_152 rfl ?_
    refine j_getR 156 dX6_workedOut_153 rfl fl_X6_15 rfl rfl ?_
    refine j_iconst 157 (v := 0) dX6_workedOut_156 rfl rfl ?_
    refine j_iald 158 0 rfl (by first | assumption | decide | omega) dX6_workedOut_157 rfl rfl ?_
    refine j_iret dX6_workedOut_158 rfl ?_
    exact hq m Sm.rf hp
  | succ k ih =>
    intro i m o hi hs hc hp hq
    have hd : dep code i ≤ i := dep_le code i
    have hl := runE_len (a := a) (b := b) (c := c) (n := i) (fun j hj => hw j (by omega))
    have htok := hw i (by omega)
    have e2 : nI i + 1 = nI (i + 1) := nI_1 i
    refine j_iload5 8 dX6_workedOut_6 rfl ?_
    refine j_aload0 9 dX6_workedOut_8 rfl ?_
    refine j_getI 12 dX6_workedOut_9 rfl fl_X6_29 rfl rfl ?_
    refine j_cmp_ge 152 15 dX6_workedOut_12 rfl rfl (fun h12 => absurd h12 (by rw [hs]; exact nI_ge (by omega) (by omega))) (fun h12 => ?_)
    refine j_aload0 16 dX6_workedOut_15 rfl ?_
    refine j_getR 19 dX6_workedOut_16 rfl fl_X6_9 rfl rfl ?_
    refine j_iload5 21 dX6_workedOut_19 rfl ?_
    refine j_iald 22 _ rfl (show i < 50 by omega) dX6_workedOut_21 rfl rfl ?_
    refine j_top (hc i (by omega)) ?_
    refine j_istore6 24 dX6_workedOut_22 rfl rfl rfl ?_
    rcases htok with ⟨x, hx, ex⟩ | ⟨ex, h1⟩ | ⟨⟨x, h3, hx, hne, ex⟩, h2⟩
    · have hstep : runE a b c code (i + 1) = tokV a b c (code i) :: runE a b c code i := stepE_A (by rw [ex]; exact n20 hx)
      have hdep : dep code (i + 1) = dep code i + 1 := if_pos (by rw [ex]; exact n20 hx)
      have e1 : nI (dep code i) + 1 = nI (dep code (i + 1)) := by rw [hdep]; exact nI_1 _
      have key : J l g 1 mX6_workedOut 38 [some (rf g 43), some (.int a), some (.int b), some (.int c), some (.int (nI (dep code i))), some (.int (nI i)), some (.int (encT (code i)))] [] m Q := by
        refine j_iload4 40 dX6_workedOut_38 rfl ?_
        refine j_bipush 42 (v := 50) dX6_workedOut_40 rfl rfl ?_
        refine j_cmp_ge 146 45 dX6_workedOut_42 rfl rfl (fun h42 => absurd h42 (show ¬ (50 : Int32) ≤ nI (dep code i) from nI_ge (a := dep code i) (b := 50) (by omega) (by decide))) (fun h42 => ?_)
        refine j_aload0 46 dX6_workedOut_45 rfl ?_
        refine j_getR 49 dX6_workedOut_46 rfl fl_X6_15 rfl rfl ?_
        refine j_iload4 51 dX6_workedOut_49 rfl ?_
        refine j_iload6 53 dX6_workedOut_51 rfl ?_
        refine j_iload1 54 dX6_workedOut_53 rfl ?_
        refine j_iload2 55 dX6_workedOut_54 rfl ?_
        refine j_iload3 56 dX6_workedOut_55 rfl ?_
        refine j_st4f 59 dX6_workedOut_56 rfl rfl cl_X6_55 rfl (c_valueOf m _ a b c) ?_
        refine j_iast 60 _ rfl (show dep code i < 50 by omega) dX6_workedOut_59 rfl rfl ?_
        refine j_iinc4 63 (1) dX6_workedOut_60 rfl rfl rfl rfl ?_
        refine j_goto 146 dX6_workedOut_63 rfl ?_
        refine j_iinc5 149 (1) dX6_workedOut_146 rfl rfl rfl rfl ?_
        refine j_goto 6 dX6_workedOut_149 rfl ?_
        rw [e1, e2, show vlF (encT (code i)) a b c = tokV a b c (code i) by rw [ex]; exact vlF_enc hx]
        exact ih (i + 1) _ _ (by omega) (by rw [up2_a (by decide)]; exact hs) (fun j hj => by rw [up2_a (by decide)]; exact hc j hj) (by rw [hstep]; exact PS_put hl hp) (fun m' s1 p1 => hq m' ((Sm.up Sm.rf (by decide)).trans s1) p1)
      by_cases hx2 : x < 10000
      · have ee : encT (code i) = nI (x + 256) := by rw [ex]; unfold encT; rw [if_pos (show nI x < 10000 from nI_lt (a := x) (b := 10000) hx2 (by decide))]; exact nI_add x 256
        refine j_iload6 26 dX6_workedOut_24 rfl ?_
        refine j_sipush 29 (v := 256) dX6_workedOut_26 rfl rfl ?_
        refine j_cmp_ge 38 32 dX6_workedOut_29 rfl rfl (fun h29 => ?_) (fun h29 => absurd (by rw [ee]; exact nI_le (a := 256) (b := x + 256) (by omega) (by omega)) h29)
        exact key
      · have ee : encT (code i) = nI (x - 10000) := by
          rw [ex]; unfold encT
          rw [if_neg (show ¬ nI x < 10000 from nI_nlt (a := x) (b := 10000) (by omega) (by omega)), if_pos (n20 hx)]
          exact pk_sub (a := x) (b := 10000) (by omega)
        refine j_iload6 26 dX6_workedOut_24 rfl ?_
        refine j_sipush 29 (v := 256) dX6_workedOut_26 rfl rfl ?_
        refine j_cmp_ge 38 32 dX6_workedOut_29 rfl rfl (fun h29 => absurd h29 (by rw [ee]; exact nI_ge (a := x - 10000) (b := 256) (by omega) (by decide))) (fun h29 => ?_)
        refine j_iload6 34 dX6_workedOut_32 rfl ?_
        refine j_iconst 35 (v := 2) dX6_workedOut_34 rfl rfl ?_
        refine j_cmp_gt 66 38 dX6_workedOut_35 rfl rfl (fun h35 => absurd h35 (by rw [ee]; exact nI_nlt (a := 2) (b := x - 10000) (by omega) (by decide))) (fun h35 => ?_)
        exact key
    · have hdep : dep code (i + 1) = dep code i := by show (if code i < 20000 then _ else _) = _; rw [if_neg (by rw [ex]; decide), if_pos ex]
      obtain ⟨z, r, hzr⟩ : ∃ z r, runE a b c code i = z :: r := by
        match hh : runE a b c code i with
        | z :: r => exact ⟨z, r, rfl⟩
        | [] => rw [hh] at hl; simp at hl; omega
      have hstep : runE a b c code (i + 1) = bz (z = 0) :: r := by show stepE a b c (code i) (runE a b c code i) = _; rw [ex, hzr]; rfl
      rw [hzr] at hp hl
      have hl : r.length + 1 = dep code i := by simpa using hl
      have hz : m 45 (dep code i - 1) = z := by rw [← hp.1, ← hl]; rfl
      have ed : nI (dep code i) - 1 = nI (dep code i - 1) := pk_sub (b := 1) h1
      have fin : ∀ v : Int32, v = bz (z = 0) → J l g 1 mX6_workedOut 6 [some (rf g 43), some (.int a), some (.int b), some (.int c), some (.int (nI (dep code i))), some (.int (nI i + 1)), some (.int (encT (code i)))] [] (up2 m 45 (dep code i - 1) v) Q := by
        intro v hv
        rw [← hdep, e2]
        exact ih (i + 1) _ _ (by omega) (by rw [up2_a (by decide)]; exact hs) (fun j hj => by rw [up2_a (by decide)]; exact hc j hj) (by rw [hstep, hv, hdep]; exact PS_put (by omega) hp.2) (fun m' s1 p1 => hq m' ((Sm.up Sm.rf (by decide)).trans s1) p1)
      refine j_iload6 26 dX6_workedOut_24 rfl ?_
      refine j_sipush 29 (v := 256) dX6_workedOut_26 rfl rfl ?_
      refine j_cmp_ge 38 32 dX6_workedOut_29 rfl rfl (fun h29 => absurd h29 (by rw [ex]; decide)) (fun h29 => ?_)
      refine j_iload6 34 dX6_workedOut_32 rfl ?_
      refine j_iconst 35 (v := 2) dX6_workedOut_34 rfl rfl ?_
      refine j_cmp_gt 66 38 dX6_workedOut_35 rfl rfl (fun h35 => ?_) (fun h35 => absurd (by rw [ex]; decide) h35)
      refine j_iload6 68 dX6_workedOut_66 rfl ?_
      refine j_bipush 70 (v := 33) dX6_workedOut_68 rfl rfl ?_
      refine j_cmp_ne 107 73 dX6_workedOut_70 rfl rfl (fun h70 => absurd h70 (fun q => q (by rw [ex]; decide))) (fun h70 => ?_)
      refine j_iload4 75 dX6_workedOut_73 rfl ?_
      refine j_if_le 146 78 dX6_workedOut_75 rfl rfl (fun h75 => absurd h75 (fun q => absurd q (Int32.not_le.mpr (nI_lt (a := 0) (b := dep code i) h1 (by omega))))) (fun h75 => ?_)
      refine j_aload0 79 dX6_workedOut_78 rfl ?_
      refine j_getR 82 dX6_workedOut_79 rfl fl_X6_15 rfl rfl ?_
      refine j_iload4 84 dX6_workedOut_82 rfl ?_
      refine j_iconst 85 (v := 1) dX6_workedOut_84 rfl rfl ?_
      refine j_isub 86 dX6_workedOut_85 rfl ?_
      refine j_top ed ?_
      refine j_aload0 87 dX6_workedOut_86 rfl ?_
      refine j_getR 90 dX6_workedOut_87 rfl fl_X6_15 rfl rfl ?_
      refine j_iload4 92 dX6_workedOut_90 rfl ?_
      refine j_iconst 93 (v := 1) dX6_workedOut_92 rfl rfl ?_
      refine j_isub 94 dX6_workedOut_93 rfl ?_
      refine j_top ed ?_
      refine j_iald 95 _ rfl (show dep code i - 1 < 50 by omega) dX6_workedOut_94 rfl rfl ?_
      refine j_top hz ?_
      refine j_if_ne 102 98 dX6_workedOut_95 rfl rfl (fun h95 => ?_) (fun h95 => ?_)
      · refine j_iconst 103 (v := 0) dX6_workedOut_102 rfl rfl ?_
        refine j_iast 104 _ rfl (show dep code i - 1 < 50 by omega) dX6_workedOut_103 rfl rfl ?_
        refine j_goto 146 dX6_workedOut_104 rfl ?_
        refine j_iinc5 149 (1) dX6_workedOut_146 rfl rfl rfl rfl ?_
        refine j_goto 6 dX6_workedOut_149 rfl ?_
        first | exact fin _ (bz_f h95).symm | exact fin _ (bz_t h95).symm
      · refine j_iconst 99 (v := 1) dX6_workedOut_98 rfl rfl ?_
        refine j_goto 103 dX6_workedOut_99 rfl ?_
        refine j_iast 104 _ rfl (show dep code i - 1 < 50 by omega) dX6_workedOut_103 rfl rfl ?_
        refine j_goto 146 dX6_workedOut_104 rfl ?_
        refine j_iinc5 149 (1) dX6_workedOut_146 rfl rfl rfl rfl ?_
        refine j_goto 6 dX6_workedOut_149 rfl ?_
        first | exact fin _ (bz_f h95).symm | exact fin _ (bz_t h95).symm
    · have hA : ¬ code i < 20000 := by rw [ex]; exact n20' hx
      have hB : ¬ code i = 20033 := by rw [ex]; exact n33 hx hne
      have hdep : dep code (i + 1) = dep code i - 1 := by show (if code i < 20000 then _ else _) = _; rw [if_neg hA, if_neg hB]
      have ee : encT (code i) = nI x := by
        rw [ex]; unfold encT
        rw [if_neg (show ¬ nI (20000 + x) < 10000 from nI_nlt (a := 20000 + x) (b := 10000) (by omega) (by omega)), if_neg (n20' hx)]
        have := pk_sub (a := 20000 + x) (b := 20000) (by omega)
        rw [show (20000 + x - 20000) = x by omega] at this
        exact this
      have ee2 : code i - 20000 = encT (code i) := by rw [ee, ex]; have := pk_sub (a := 20000 + x) (b := 20000) (by omega); rw [show (20000 + x - 20000) = x by omega] at this; exact this
      obtain ⟨z, w, r, hzr⟩ : ∃ z w r, runE a b c code i = z :: w :: r := by
        match hh : runE a b c code i with
        | z :: w :: r => exact ⟨z, w, r, rfl⟩
        | [z] => rw [hh] at hl; simp at hl; omega
        | [] => rw [hh] at hl; simp at hl; omega
      have hstep : runE a b c code (i + 1) = opF (encT (code i)) w z :: r := by show stepE a b c (code i) (runE a b c code i) = _; rw [hzr, stepE_C hA hB, ee2]
      rw [hzr] at hp hl
      have hl : r.length + 2 = dep code i := by simpa using hl
      have hz : m 45 (dep code i - 1) = z := by rw [← hp.1, ← hl]; rfl
      have hw2 : m 45 (dep code i - 1 - 1) = w := by rw [← hp.2.1, ← hl]; rfl
      have e4 : nI (dep code i) + -1 = nI (dep code i - 1) := by have := pk_m1 (dep code i - 1); rw [show dep code i - 1 + 1 = dep code i by omega] at this; exact this
      have e5 : nI (dep code i - 1) - 1 = nI (dep code i - 1 - 1) := pk_sub (b := 1) (by omega)
      refine j_iload6 26 dX6_workedOut_24 rfl ?_
      refine j_sipush 29 (v := 256) dX6_workedOut_26 rfl rfl ?_
      refine j_cmp_ge 38 32 dX6_workedOut_29 rfl rfl (fun h29 => absurd h29 (by rw [ee]; exact nI_ge (a := x) (b := 256) (by omega) (by decide))) (fun h29 => ?_)
      refine j_iload6 34 dX6_workedOut_32 rfl ?_
      refine j_iconst 35 (v := 2) dX6_workedOut_34 rfl rfl ?_
      refine j_cmp_gt 66 38 dX6_workedOut_35 rfl rfl (fun h35 => ?_) (fun h35 => absurd (by rw [ee]; exact nI_lt (a := 2) (b := x) (by omega) (by omega)) h35)
      refine j_iload6 68 dX6_workedOut_66 rfl ?_
      refine j_bipush 70 (v := 33) dX6_workedOut_68 rfl rfl ?_
      refine j_cmp_ne 107 73 dX6_workedOut_70 rfl rfl (fun h70 => ?_) (fun h70 => absurd h70 (by rw [ee]; exact fun q => hne ((nI_eq (a := x) (b := 33) (by omega) (by decide)).mp q)))
      refine j_iload4 109 dX6_workedOut_107 rfl ?_
      refine j_iconst 110 (v := 1) dX6_workedOut_109 rfl rfl ?_
      refine j_cmp_le 146 113 dX6_workedOut_110 rfl rfl (fun h110 => absurd h110 (fun q => absurd q (Int32.not_le.mpr (nI_lt (a := 1) (b := dep code i) (by omega) (by omega))))) (fun h110 => ?_)
      refine j_iinc4 116 (-1) dX6_workedOut_113 rfl rfl rfl rfl ?_
      rw [e4]
      refine j_aload0 117 dX6_workedOut_116 rfl ?_
      refine j_getR 120 dX6_workedOut_117 rfl fl_X6_15 rfl rfl ?_
      refine j_iload4 122 dX6_workedOut_120 rfl ?_
      refine j_iconst 123 (v := 1) dX6_workedOut_122 rfl rfl ?_
      refine j_isub 124 dX6_workedOut_123 rfl ?_
      refine j_top e5 ?_
      refine j_iload6 126 dX6_workedOut_124 rfl ?_
      refine j_aload0 127 dX6_workedOut_126 rfl ?_
      refine j_getR 130 dX6_workedOut_127 rfl fl_X6_15 rfl rfl ?_
      refine j_iload4 132 dX6_workedOut_130 rfl ?_
      refine j_iconst 133 (v := 1) dX6_workedOut_132 rfl rfl ?_
      refine j_isub 134 dX6_workedOut_133 rfl ?_
      refine j_top e5 ?_
      refine j_iald 135 _ rfl (show dep code i - 1 - 1 < 50 by omega) dX6_workedOut_134 rfl rfl ?_
      refine j_top hw2 ?_
      refine j_aload0 136 dX6_workedOut_135 rfl ?_
      refine j_getR 139 dX6_workedOut_136 rfl fl_X6_15 rfl rfl ?_
      refine j_iload4 141 dX6_workedOut_139 rfl ?_
      refine j_iald 142 _ rfl (show dep code i - 1 < 50 by omega) dX6_workedOut_141 rfl rfl ?_
      refine j_top hz ?_
      refine j_st3f 145 dX6_workedOut_142 rfl rfl cl_X6_59 rfl (c_joined m _ w z) ?_
      refine j_iast 146 _ rfl (show dep code i - 1 - 1 < 50 by omega) dX6_workedOut_145 rfl rfl ?_
      refine j_iinc5 149 (1) dX6_workedOut_146 rfl rfl rfl rfl ?_
      refine j_goto 6 dX6_workedOut_149 rfl ?_
      rw [← hdep, e2]
      exact ih (i + 1) _ _ (by omega) (by rw [up2_a (by decide)]; exact hs) (fun j hj => by rw [up2_a (by decide)]; exact hc j hj) (by rw [hstep, hdep]; exact PS_put (by omega) hp.2.2) (fun m' s1 p1 => hq m' ((Sm.up Sm.rf (by decide)).trans s1) p1)
end EV
