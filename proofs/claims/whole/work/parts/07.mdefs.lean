/-! ===== the reference's words ===== -/
/-- the reference's object: its cells are q 0 (itself), q 1 now, q 2 kept, q 3 isKept, q 4 refused, q 5 named, q 6 bearing, q 7 bytes, q 8 anew, q 9 values -/
abbrev oM (q : Nat → Nat) (ab be : Int64) (fe fc mo bl ta tl tk va : Int32) : List Value := [.ref (q 1), .ref (q 2), .ref (q 3), .ref (q 4), .long ab, .long be, .ref (q 5), .int fe, .int fc, .int mo, .ref (q 6), .ref (q 7), .int bl, .int ta, .int tl, .int tk, .int va, .ref (q 8), .ref (q 9)]
def fr (a b : Nat) : Nat := if a < b then b - a else a - b
def evn (d : Int32) : Bool := decide (d - d / 2 * 2 = 0)
/-- does one of this kind turn -/
def tk (kd far : Nat) (own nob ev : Bool) : Bool :=
  if kd = 1 then decide (far ≤ 3) && own
  else if kd = 2 then decide (far ≤ 1)
  else if kd = 3 then decide (far ≤ 6)
  else if kd = 4 then decide (far ≤ 6) && ev
  else if kd = 5 then (decide (far ≤ 3) && own) || (nob && decide (far ≤ 6))
  else decide (far ≤ 3)
def hnd (a f : Nat → Int32) (k : Nat) : Nat → Int32 := fun p => if p < k then a (5 + p) else f p
theorem hnd_0 (a f : Nat → Int32) : hnd a f 0 = f := by funext p; simp [hnd]
theorem hnd_s (a f : Nat → Int32) (k : Nat) : upd (hnd a f k) k (a (5 + k)) = hnd a f (k + 1) := by
  funext p
  by_cases h : p = k
  · subst h; simp [upd, hnd]
  · by_cases h2 : p < k
    · simp [upd, hnd, h, h2, show p < k + 1 by omega]
    · simp [upd, hnd, h, h2, show ¬ p < k + 1 by omega]
/-- who bears x, of the first n -/
def bo (g : Nat → Int32) (x : Int32) (n : Nat) : Nat := bs (fun p => decide (g p = x)) n
/-- would p turn at x called from pl -/
def tB (a g : Nat → Int32) (x : Int32) (pl n : Nat) : Nat → Bool := fun p => tk (tn (a (19 + p))) (fr (tn (a (12 + p))) pl) (decide (g p = x)) (decide (bo g x n = 0)) (evn (a 1))
def tS (a g : Nat → Int32) (x : Int32) (pl n : Nat) : Nat := bs (tB a g x pl n) n
def gt (g : Nat → Int32) (x : Int32) (w k : Nat) : Nat → Int32 := fun p => if p < k then (if w.testBit p then x else if g p = x then -1 else g p) else g p
theorem gt_0 (g : Nat → Int32) (x : Int32) (w : Nat) : gt g x w 0 = g := by funext p; simp [gt]
theorem gt_k (g : Nat → Int32) (x : Int32) (w k : Nat) : gt g x w k k = g k := by simp [gt]
theorem gt_s (g : Nat → Int32) (x : Int32) (w k : Nat) (v : Int32) (h : v = if w.testBit k then x else if g k = x then -1 else g k) : upd (gt g x w k) k v = gt g x w (k + 1) := by
  subst h
  funext p
  by_cases h : p = k
  · subst h; simp [upd, gt]
  · by_cases h2 : p < k
    · simp [upd, gt, h, h2, show p < k + 1 by omega]
    · simp [upd, gt, h, h2, show ¬ p < k + 1 by omega]
def gT (g : Nat → Int32) (x : Int32) (w n : Nat) : Nat → Int32 := if w = 0 then g else gt g x w n
def ow (g : Nat → Int32) (n : Nat) : Nat := ct (fun p => decide (g p = nI p)) n
theorem ct_yes {p : Nat → Bool} {k : Nat} (h : p k = true) : ct p (k + 1) = ct p k + 1 := by rw [ct, if_pos h]
theorem ct_no {p : Nat → Bool} {k : Nat} (h : p k = false) : ct p (k + 1) = ct p k := by rw [ct, if_neg (by rw [h]; exact Bool.noConfusion), Nat.add_zero]
theorem fr_of {a b : Nat} (ha : a < 2147483648) (hb : b < 2147483648) : nI (fr a b) = nI (if a < b then b - a else a - b) := rfl
/-- the fields of a run of n cells from 'to' on, copied from 'from' on -/
def cpy (a : Nat → Int32) (fr to k : Nat) : Nat → Int32 := fun j => if to ≤ j ∧ j < to + k then a (fr + (j - to)) else a j
theorem cpy_0 (a : Nat → Int32) (fr to : Nat) : cpy a fr to 0 = a := by funext j; simp only [cpy]; rw [if_neg (by omega)]
theorem cpy_out {a : Nat → Int32} {fr to k j : Nat} (h : j < to ∨ to + k ≤ j) : cpy a fr to k j = a j := by simp only [cpy]; rw [if_neg (by omega)]
theorem cpy_in {a : Nat → Int32} {fr to k j : Nat} (h : to ≤ j) (h2 : j < to + k) : cpy a fr to k j = a (fr + (j - to)) := by simp only [cpy]; rw [if_pos ⟨h, h2⟩]
theorem cpy_s (a : Nat → Int32) (fr to k : Nat) : upd (cpy a fr to k) (to + k) (a (fr + k)) = cpy a fr to (k + 1) := by
  funext j
  by_cases h : j = to + k
  · subst h; simp only [upd, if_pos, cpy]; rw [if_pos (by omega), show to + k - to = k by omega]
  · simp only [upd, if_neg h, cpy]
    by_cases h2 : to ≤ j ∧ j < to + k
    · rw [if_pos h2, if_pos (by omega)]
    · rw [if_neg h2, if_neg (by omega)]
def kpG (a : Nat → Int32) (u : Nat) : Nat → Int32 := upd (upd (cpy a 5 (68 + 15 * u) 14) (68 + 15 * u + 14) (a 1)) 4 (nI (u + 1))
def kpF (a : Nat → Int32) : Nat → Int32 := if tn (a 4) = 8 then kpG (upd (cpy a 83 68 105) 4 (nI 7)) 7 else kpG a (tn (a 4))
