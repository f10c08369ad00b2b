/-! ===== the text: items ===== -/
def spF (T : Nat → Nat) (p : Nat) (w : Nat → Nat) : Nat → Bool
  | 0 => true
  | k + 1 => spF T p w k && decide (T (p + k) = w k)
theorem spF_no {T : Nat → Nat} {p : Nat} {w : Nat → Nat} {k : Nat} (h : spF T p w k = false) : ∀ m, spF T p w (k + m) = false
  | 0 => h
  | m + 1 => by rw [← Nat.add_assoc, spF, spF_no h m]; rfl
def w6 (a b c d e f : Nat) : Nat → Nat := fun k => if k = 0 then a else if k = 1 then b else if k = 2 then c else if k = 3 then d else if k = 4 then e else f
def spl (T : Nat → Nat) (L i sz a b c d e f : Nat) : Bool := decide (tK T L i = 1) && decide (tE T L i - tA T L i = sz) && spF T (tA T L i) (w6 a b c d e f) sz
def isHam (T : Nat → Nat) (L i : Nat) : Bool := spl T L i 6 104 97 109 108 101 116
def isOnW (T : Nat → Nat) (L i : Nat) : Bool := spl T L i 3 111 110 101 0 0 0
def isBea (T : Nat → Nat) (L i : Nat) : Bool := spl T L i 5 98 101 97 114 115 0
def isNon (T : Nat → Nat) (L i : Nat) : Bool := spl T L i 4 110 111 110 101 0 0
def nmO (T : Nat → Nat) (L i B : Nat) : Bool := decide (tK T L i = 2) && decide (tV T L i < B)
def pO (T : Nat → Nat) (L i : Nat) (w : Nat → Int32) (n : Nat) : Bool × Nat × (Nat → Int32) :=
  if n = 7 then (false, i, w)
  else if nmO T L (tE T L i) 6 = false then (false, tE T L i, w)
  else if nmO T L (tE T L (tE T L i)) 10 = false then (false, tE T L (tE T L i), w)
  else (true, tE T L (tE T L (tE T L i)), layF w (tV T L (tE T L i)) (tV T L (tE T L (tE T L i))) n)
def pR (T : Nat → Nat) (L i : Nat) (w : Nat → Int32) (n : Nat) : Bool × Nat × (Nat → Int32) :=
  if nmO T L (tE T L i) n = false then (false, tE T L i, w)
  else if nmO T L (tE T L (tE T L i)) n = false then (false, tE T L (tE T L i), w)
  else (true, tE T L (tE T L (tE T L i)), upd w (5 + tV T L (tE T L i)) (nI (tV T L (tE T L (tE T L i)))))
def pZ (T : Nat → Nat) (L i : Nat) (w : Nat → Int32) (n : Nat) : Bool × Nat × (Nat → Int32) :=
  if nmO T L (tE T L i) n = false then (false, tE T L i, w)
  else (true, tE T L (tE T L i), upd w (5 + tV T L (tE T L i)) (-1))
def pI (T : Nat → Nat) (L i : Nat) (w : Nat → Int32) (n : Nat) : Bool × Nat × (Nat → Int32) :=
  if isOnW T L i = true then pO T L i w n else if isBea T L i = true then pR T L i w n else if isNon T L i = true then pZ T L i w n else (false, i, w)
def pL (T : Nat → Nat) (L : Nat) : Nat → Nat → (Nat → Int32) → Nat → Bool × Nat × (Nat → Int32)
  | 0, i, w, _ => (false, i, w)
  | f + 1, i, w, m => if tK T L i = 0 then (true, m, w)
    else if (pI T L i w (tn (w 0))).1 = false then (false, tA T L (pI T L i w (tn (w 0))).2.1, w)
    else if tK T L (pI T L i w (tn (w 0))).2.1 = 3 then pL T L f (tE T L (pI T L i w (tn (w 0))).2.1) (pI T L i w (tn (w 0))).2.2 (m + 1)
    else (false, tA T L (pI T L i w (tn (w 0))).2.1, w)
def zz : Nat → Int32 := fun _ => nI 0
def rdP (T : Nat → Nat) (L : Nat) : Bool × Nat × (Nat → Int32) :=
  if isHam T L 0 = false then (false, tA T L 0, zz)
  else if nmO T L (tE T L 0) 100 = false then (false, tA T L (tE T L 0), zz)
  else if tK T L (tE T L (tE T L 0)) = 3 then pL T L (L + 1) (tE T L (tE T L (tE T L 0))) (beg zz (nI (tV T L (tE T L 0)))) 1
  else (false, tA T L (tE T L (tE T L 0)), zz)
def rdR (T : Nat → Nat) (L : Nat) : Int32 := if (rdP T L).1 = true then nI (rdP T L).2.1 else (-10) - nI (rdP T L).2.1
def nw (a w : Nat → Int32) (k : Nat) : Nat → Int32 := fun j => if j < k then w j else a j
theorem nw_0 (a w : Nat → Int32) : nw a w 0 = a := by funext j; simp [nw]
theorem nw_s (a w : Nat → Int32) (k : Nat) : upd (nw a w k) k (w k) = nw a w (k + 1) := by
  funext p
  by_cases h : p = k
  · subst h; simp [upd, nw]
  · by_cases h2 : p < k
    · simp [upd, nw, h, h2, show p < k + 1 by omega]
    · simp [upd, nw, h, h2, show ¬ p < k + 1 by omega]
def rdN (T : Nat → Nat) (L : Nat) (a : Nat → Int32) : Nat → Int32 := if (rdP T L).1 = true then nw a (rdP T L).2.2 68 else a
theorem tk_val {v : Nat} {h : Int32} {B : Nat} (hv : v < 2147483648) (hh : h.toInt + 1 = B) : (decide ((nI 0).toInt64 ≤ (nI v).toInt64) && decide ((nI v).toInt64 ≤ h.toInt64)) = decide (v < B) := by
  simp only [fa_le64, Int32.toInt_toInt64, nI_toInt hv, nI_toInt (show 0 < 2147483648 by decide)]
  by_cases q : v < B
  · simp [q]; omega
  · simp [q]; omega
theorem nm1_toInt {n : Nat} (hn : n ≤ 7) : (nI n - nI 1).toInt + 1 = n := by rw [pk_sub_toInt (show n < 2 ^ 30 by omega) (by decide)]; omega
theorem beg_cong {e e' : Nat → Int32} {d : Int32} : ∀ j, j < 68 → beg e d j = beg e' d j := by
  intro j hj
  unfold beg upd zr
  split
  · rfl
  · simp only [if_pos hj]
/-- the head: is it one, where it stands then, the hamlet -/
def hmP (T : Nat → Nat) (L i : Nat) (w : Nat → Int32) : Bool × Nat × (Nat → Int32) :=
  if isHam T L i = false then (false, i, w)
  else if nmO T L (tE T L i) 100 = false then (false, tE T L i, w)
  else (decide (tK T L (tE T L (tE T L i)) = 3), tE T L (tE T L i), beg zz (nI (tV T L (tE T L i))))
