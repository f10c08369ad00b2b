/-! ===== the text: items ===== -/
def spF (T : Nat → Nat) (p : Nat) (w : Nat → Nat) : Nat → Bool
  | 0 => true
  | k + 1 => spF T p w k && decide (T (p + k) = w k)
theorem spF_no {T : Nat → Nat} {p : Nat} {w : Nat → Nat} {k : Nat} (h : spF T p w k = false) : ∀ m, spF T p w (k + m) = false
  | 0 => h
  | m + 1 => by rw [← Nat.add_assoc, spF, spF_no h m]; rfl
def w6 (a b c d e f : Nat) : Nat → Nat := fun k => if k = 0 then a else if k = 1 then b else if k = 2 then c else if k = 3 then d else if k = 4 then e else f
def spl (T : Nat → Nat) (L i sz a b c d e f : Nat) : Bool := decide (tK T L i = 1) && decide (tE T L i - tA T L i = sz) && spF T (tA T L i) (w6 a b c d e f) sz
def isHam (T : Nat → Nat) (L i : Nat) : Bool := spl T L i 6 104 97 109 108 101 116
def isOnW (T : Nat → Nat) (L i : Nat) : Bool := spl T L i 3 111 110 101 0 0 0
def isBea (T : Nat → Nat) (L i : Nat) : Bool := spl T L i 5 98 101 97 114 115 0
def isNon (T : Nat → Nat) (L i : Nat) : Bool := spl T L i 4 110 111 110 101 0 0
def nmO (T : Nat → Nat) (L i B : Nat) : Bool := decide (tK T L i = 2) && decide (tV T L i < B)
def pO (T : Nat → Nat) (L i : Nat) (w : Nat → Int32) (n : Nat) : Bool × Nat × (Nat → Int32) :=
  if n = 7 then (false, i, w)
  else if nmO T L (tE T L i) 6 = false then (false, tE T L i, w)
  else if nmO T L (tE T L (tE T L i)) 10 = false then (false, tE T L (tE T L i), w)
  else (true, tE T L (tE T L (tE T L i)), layF w (tV T L (tE T L i)) (tV T L (tE T L (tE T L i))) n)
def pR (T : Nat → Nat) (L i : Nat) (w : Nat → Int32) (n : Nat) : Bool × Nat × (Nat → Int32) :=
  if nmO T L (tE T L i) n = false then (false, tE T L i, w)
  else if nmO T L (tE T L (tE T L i)) n = false then (false, tE T L (tE T L i), w)
  else (true, tE T L (tE T L (tE T L i)), upd w (5 + tV T L (tE T L i)) (nI (tV T L (tE T L (tE T L i)))))
def pZ (T : Nat → Nat) (L i : Nat) (w : Nat → Int32) (n : Nat) : Bool × Nat × (Nat → Int32) :=
  if nmO T L (tE T L i) n = false then (false, tE T L i, w)
  else (true, tE T L (tE T L i), upd w (5 + tV T L (tE T L i)) (-1))
def pI (T : Nat → Nat) (L i : Nat) (w : Nat → Int32) (n : Nat) : Bool × Nat × (Nat → Int32) :=
  if isOnW T L i = true then pO T L i w n else if isBea T L i = true then pR T L i w n else if isNon T L i = true then pZ T L i w n else (false, i, w)
def pL (T : Nat → Nat) (L : Nat) : Nat → Nat → (Nat → Int32) → Nat → Bool × Nat × (Nat → Int32)
  | 0, i, w, _ => (false, i, w)
  | f + 1, i, w, m => if tK T L i = 0 then (true, m, w)
    else if (pI T L i w (tn (w 0))).1 = false then (false, tA T L (pI T L i w (tn (w 0))).2.1, w)
    else if tK T L (pI T L i w (tn (w 0))).2.1 = 3 then pL T L f (tE T L (pI T L i w (tn (w 0))).2.1) (pI T L i w (tn (w 0))).2.2 (m + 1)
    else (false, tA T L (pI T L i w (tn (w 0))).2.1, w)
def zz : Nat → Int32 := fun _ => nI 0
/-- the head: is it one, where it stands then, the hamlet -/
def hmP (T : Nat → Nat) (L i : Nat) (w : Nat → Int32) : Bool × Nat × (Nat → Int32) :=
  if isHam T L i = false then (false, i, w)
  else if nmO T L (tE T L i) 100 = false then (false, tE T L i, w)
  else (decide (tK T L (tE T L (tE T L i)) = 3), tE T L (tE T L i), beg zz (nI (tV T L (tE T L i))))
def rdP (T : Nat → Nat) (L : Nat) : Bool × Nat × (Nat → Int32) :=
  if (hmP T L 0 zz).1 = true then pL T L (L + 1) (tE T L (hmP T L 0 zz).2.1) (hmP T L 0 zz).2.2 1
  else (false, tA T L (hmP T L 0 zz).2.1, zz)
theorem hmP_w (T : Nat → Nat) (L i : Nat) (w : Nat → Int32) : (hmP T L i w).1 = (hmP T L i zz).1 ∧ (hmP T L i w).2.1 = (hmP T L i zz).2.1 ∧ ((hmP T L i w).1 = true → (hmP T L i w).2.2 = (hmP T L i zz).2.2) := by
  unfold hmP
  split
  · exact ⟨rfl, rfl, fun h => by cases h⟩
  · split
    · exact ⟨rfl, rfl, fun h => by cases h⟩
    · exact ⟨rfl, rfl, fun _ => rfl⟩
theorem hmP_in {T : Nat → Nat} {L i : Nat} {w : Nat → Int32} (h : i ≤ L) : i ≤ (hmP T L i w).2.1 ∧ (hmP T L i w).2.1 ≤ L := by
  have e1 : i ≤ tE T L i := Nat.le_trans (tA_ge T L i) (tE_ge T L i)
  have e2 : tE T L i ≤ tE T L (tE T L i) := Nat.le_trans (tA_ge T L _) (tE_ge T L _)
  have l1 := tE_le (T := T) h
  have l2 := tE_le (T := T) l1
  unfold hmP
  split
  · exact ⟨Nat.le_refl _, h⟩
  · split
    · exact ⟨e1, l1⟩
    · exact ⟨Nat.le_trans e1 e2, l2⟩
theorem hmP_0 {T : Nat → Nat} {L i : Nat} {w : Nat → Int32} (h : (hmP T L i w).1 = true) : isN ((hmP T L i w).2.2 0) 8 := by
  unfold hmP at h ⊢
  split at h
  · cases h
  · split at h
    · cases h
    · rename_i h1 h2
      rw [if_neg h1, if_neg h2]
      exact isN_nI (k := 0) (by decide) (by decide)
theorem pI_in {T : Nat → Nat} {L i n : Nat} {w : Nat → Int32} (h : i ≤ L) : i ≤ (pI T L i w n).2.1 ∧ (pI T L i w n).2.1 ≤ L := by
  have e1 : i ≤ tE T L i := Nat.le_trans (tA_ge T L i) (tE_ge T L i)
  have e2 : tE T L i ≤ tE T L (tE T L i) := Nat.le_trans (tA_ge T L _) (tE_ge T L _)
  have e3 : tE T L (tE T L i) ≤ tE T L (tE T L (tE T L i)) := Nat.le_trans (tA_ge T L _) (tE_ge T L _)
  have l1 := tE_le (T := T) h
  have l2 := tE_le (T := T) l1
  have l3 := tE_le (T := T) l2
  unfold pI
  split
  · unfold pO
    split
    · exact ⟨Nat.le_refl _, h⟩
    · split
      · exact ⟨e1, l1⟩
      · split
        · exact ⟨Nat.le_trans e1 e2, l2⟩
        · exact ⟨Nat.le_trans e1 (Nat.le_trans e2 e3), l3⟩
  · split
    · unfold pR
      split
      · exact ⟨e1, l1⟩
      · split
        · exact ⟨Nat.le_trans e1 e2, l2⟩
        · exact ⟨Nat.le_trans e1 (Nat.le_trans e2 e3), l3⟩
    · split
      · unfold pZ
        split
        · exact ⟨e1, l1⟩
        · exact ⟨Nat.le_trans e1 e2, l2⟩
      · exact ⟨Nat.le_refl _, h⟩
theorem pI_0 {T : Nat → Nat} {L i n : Nat} {w : Nat → Int32} (h : w 0 = nI n) (hn : n ≤ 7) : isN ((pI T L i w n).2.2 0) 8 := by
  have h0 : isN (w 0) 8 := by rw [h]; exact isN_nI (by omega) (by decide)
  have hu : ∀ (k : Nat) (v : Int32), isN (upd w (5 + k) v 0) 8 := fun k v => by rw [upd_n (by omega)]; exact h0
  unfold pI
  split
  · unfold pO
    split
    · exact h0
    · split
      · exact h0
      · split
        · exact h0
        · have e : ∀ x y : Nat, layF w x y n 0 = nI (n + 1) := fun x y => by unfold layF; rw [upd_s]
          rw [show ∀ (b : Bool) (z : Nat) (f : Nat → Int32), (b, z, f).2.2 0 = f 0 from fun _ _ _ => rfl, e]
          exact isN_nI (by omega) (by decide)
  · split
    · unfold pR
      split
      · exact h0
      · split
        · exact h0
        · exact hu _ _
    · split
      · unfold pZ
        split
        · exact h0
        · exact hu _ _
      · exact h0
theorem tK_3 {T : Nat → Nat} {L i : Nat} (h : tK T L i = 3) : tA T L i < tE T L i := by
  apply tE_gt
  rcases Nat.lt_or_ge (tA T L i) L with q | q
  · exact q
  · have hy : tY T L i = 0 := by unfold tY; rw [if_neg (by omega)]
    unfold tK at h
    rw [hy, if_neg (by omega)] at h
    cases h
def rdR (T : Nat → Nat) (L : Nat) : Int32 := if (rdP T L).1 = true then nI (rdP T L).2.1 else (-10) - nI (rdP T L).2.1
def nw (a w : Nat → Int32) (k : Nat) : Nat → Int32 := fun j => if j < k then w j else a j
theorem nw_0 (a w : Nat → Int32) : nw a w 0 = a := by funext j; simp [nw]
theorem nw_s (a w : Nat → Int32) (k : Nat) : upd (nw a w k) k (w k) = nw a w (k + 1) := by
  funext p
  by_cases h : p = k
  · subst h; simp [upd, nw]
  · by_cases h2 : p < k
    · simp [upd, nw, h, h2, show p < k + 1 by omega]
    · simp [upd, nw, h, h2, show ¬ p < k + 1 by omega]
def rdN (T : Nat → Nat) (L : Nat) (a : Nat → Int32) : Nat → Int32 := if (rdP T L).1 = true then nw a (rdP T L).2.2 68 else a
theorem tk_val {v : Nat} {h : Int32} {B : Nat} (hv : v < 2147483648) (hh : h.toInt + 1 = B) : (decide ((nI 0).toInt64 ≤ (nI v).toInt64) && decide ((nI v).toInt64 ≤ h.toInt64)) = decide (v < B) := by
  simp only [fa_le64, Int32.toInt_toInt64, nI_toInt hv, nI_toInt (show 0 < 2147483648 by decide)]
  by_cases q : v < B
  · simp [q]; omega
  · simp [q]; omega
theorem nm1_toInt {n : Nat} (hn : n ≤ 7) : (nI n - nI 1).toInt + 1 = n := by rw [pk_sub_toInt (show n < 2 ^ 30 by omega) (by decide)]; omega
theorem beg_cong {e e' : Nat → Int32} {d : Int32} : ∀ j, j < 68 → beg e d j = beg e' d j := by
  intro j hj
  unfold beg upd zr
  split
  · rfl
  · simp only [if_pos hj]
theorem rdR_n {T : Nat → Nat} {L p : Nat} {w : Nat → Int32} (h : rdP T L = (false, p, w)) : rdR T L = (-10) - nI p := by unfold rdR; rw [h]; rfl
theorem rdR_y {T : Nat → Nat} {L p : Nat} {w : Nat → Int32} (h : rdP T L = (true, p, w)) : rdR T L = nI p := by unfold rdR; rw [h]; rfl
theorem rdN_n {T : Nat → Nat} {L p : Nat} {w a : Nat → Int32} (h : rdP T L = (false, p, w)) : rdN T L a = a := by unfold rdN; rw [h]; rfl
theorem rdN_y {T : Nat → Nat} {L p : Nat} {w a : Nat → Int32} (h : rdP T L = (true, p, w)) : rdN T L a = nw a w 68 := by unfold rdN; rw [h]; rfl
