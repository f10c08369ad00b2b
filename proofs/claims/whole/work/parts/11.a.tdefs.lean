/-! ===== the text: runs, tokens ===== -/
def wh (P : Nat → Bool) (L : Nat) : Nat → Nat → Nat
  | 0, j => j
  | f + 1, j => if j < L ∧ P j = true then wh P L f (j + 1) else j
/-- the end of the run of P from j on -/
def ew (P : Nat → Bool) (L j : Nat) : Nat := wh P L (L - j) j
theorem ew_go {P : Nat → Bool} {L j : Nat} (h : j < L) (hp : P j = true) : ew P L j = ew P L (j + 1) := by
  unfold ew
  rw [show L - j = (L - (j + 1)) + 1 by omega, wh, if_pos ⟨h, hp⟩]
theorem ew_stop {P : Nat → Bool} {L j : Nat} (h : L ≤ j ∨ P j = false) : ew P L j = j := by
  unfold ew
  cases hL : L - j with
  | zero => rfl
  | succ f =>
    rw [wh, if_neg]
    rintro ⟨h1, h2⟩
    rcases h with h | h
    · omega
    · rw [h] at h2; exact Bool.noConfusion h2
theorem wh_in (P : Nat → Bool) (L : Nat) : ∀ (f j : Nat), j ≤ wh P L f j ∧ (j ≤ L → wh P L f j ≤ L)
  | 0, j => ⟨Nat.le_refl _, fun h => h⟩
  | f + 1, j => by
    rw [wh]
    split
    · rename_i h
      have := wh_in P L f (j + 1)
      exact ⟨by omega, fun _ => this.2 (by omega)⟩
    · exact ⟨Nat.le_refl _, fun h => h⟩
theorem ew_ge (P : Nat → Bool) (L j : Nat) : j ≤ ew P L j := (wh_in P L _ j).1
theorem ew_le {P : Nat → Bool} {L j : Nat} (h : j ≤ L) : ew P L j ≤ L := (wh_in P L _ j).2 h
/-- a byte's sort: 1 a letter, 2 a figure, 3 the stop, 4 none -/
def so (c : Nat) : Nat := if 97 ≤ c ∧ c ≤ 122 then 1 else if 48 ≤ c ∧ c ≤ 57 then 2 else if c = 59 then 3 else 4
theorem so_in (c : Nat) : 1 ≤ so c ∧ so c ≤ 4 := by unfold so; split; omega; split; omega; split <;> omega
theorem so_2 {c : Nat} (h : so c = 2) : 48 ≤ c ∧ c ≤ 57 := by
  unfold so at h
  split at h
  · omega
  · split at h
    · assumption
    · split at h <;> omega
/-- the token behind i: where, its sort, its end, its number -/
def tA (T : Nat → Nat) (L i : Nat) : Nat := ew (fun j => decide (T j = 32)) L i
def tY (T : Nat → Nat) (L i : Nat) : Nat := if tA T L i < L then so (T (tA T L i)) else 0
def tE (T : Nat → Nat) (L i : Nat) : Nat := if tA T L i < L then (if so (T (tA T L i)) < 3 then ew (fun j => decide (so (T j) = so (T (tA T L i)))) L (tA T L i + 1) else tA T L i + 1) else tA T L i
def dv (T : Nat → Nat) (p : Nat) : Nat → Nat
  | 0 => 0
  | k + 1 => 10 * dv T p k + T (p + k) - 48
def tV (T : Nat → Nat) (L i : Nat) : Nat := if tY T L i = 2 then dv T (tA T L i) (if tE T L i - tA T L i = 1 then 1 else 2) else 0
def tK (T : Nat → Nat) (L i : Nat) : Nat := if tY T L i = 2 ∧ 2 < tE T L i - tA T L i then 4 else tY T L i
theorem tA_le {T : Nat → Nat} {L i : Nat} (h : i ≤ L) : tA T L i ≤ L := ew_le h
theorem tA_ge (T : Nat → Nat) (L i : Nat) : i ≤ tA T L i := ew_ge _ _ _
theorem tE_le {T : Nat → Nat} {L i : Nat} (h : i ≤ L) : tE T L i ≤ L := by
  unfold tE
  split
  · split
    · exact ew_le (by omega)
    · omega
  · exact tA_le h
theorem tE_ge (T : Nat → Nat) (L i : Nat) : tA T L i ≤ tE T L i := by
  unfold tE
  split
  · split
    · have := ew_ge (fun j => decide (so (T j) = so (T (tA T L i)))) L (tA T L i + 1)
      omega
    · omega
  · omega
theorem tE_gt {T : Nat → Nat} {L i : Nat} (h : tA T L i < L) : tA T L i < tE T L i := by
  unfold tE
  rw [if_pos h]
  split
  · have := ew_ge (fun j => decide (so (T j) = so (T (tA T L i)))) L (tA T L i + 1)
    omega
  · omega
theorem dv_lt {T : Nat → Nat} {p : Nat} : ∀ {k : Nat}, (∀ j, j < k → 48 ≤ T (p + j) ∧ T (p + j) ≤ 57) → k ≤ 2 → dv T p k < 100
  | 0, _, _ => by show 0 < 100; decide
  | 1, h, _ => by have := h 0 (by decide); simp only [dv]; omega
  | 2, h, _ => by have h0 := h 0 (by decide); have h1 := h 1 (by decide); simp only [dv] at *; omega
  | k + 3, _, h => absurd h (by omega)
theorem inl_lit {c : Nat} {lo hi : Int64} {l h : Nat} (hc : c < 2147483648) (h1 : lo.toInt = l) (h2 : hi.toInt = h) : (decide (lo ≤ (nI c).toInt64) && decide ((nI c).toInt64 ≤ hi)) = (decide (l ≤ c) && decide (c ≤ h)) := by
  simp only [fa_le64, Int32.toInt_toInt64, nI_toInt hc, h1, h2]
  by_cases q1 : l ≤ c <;> by_cases q2 : c ≤ h <;> simp [q1, q2] <;> omega
theorem sm_so {c : Nat} : (decide (97 ≤ c) && decide (c ≤ 122)) = decide (so c = 1) := by
  by_cases h : 97 ≤ c ∧ c ≤ 122
  · simp [so, h]
  · have : so c ≠ 1 := by unfold so; rw [if_neg h]; split; decide; split <;> decide
    simp only [this, decide_false]
    by_cases q : 97 ≤ c <;> simp [q] <;> omega
theorem fg_so {c : Nat} : (decide (48 ≤ c) && decide (c ≤ 57)) = decide (so c = 2) := by
  by_cases h : 48 ≤ c ∧ c ≤ 57
  · have : so c = 2 := by unfold so; rw [if_neg (by omega), if_pos h]
    simp [h, this]
  · have : so c ≠ 2 := by
      intro e
      exact h (so_2 e)
    simp only [this, decide_false]
    by_cases q : 48 ≤ c <;> simp [q] <;> omega
