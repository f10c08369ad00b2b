/-! ===== the reference's words ===== -/
/-- the reference's object: its cells are q 0 (itself), q 1 now, q 2 kept, q 3 isKept, q 4 refused, q 5 named, q 6 bearing, q 7 bytes, q 8 anew, q 9 values -/
abbrev oM (q : Nat → Nat) (ab be : Int64) (fe fc mo bl ta tl tk va : Int32) : List Value := [.ref (q 1), .ref (q 2), .ref (q 3), .ref (q 4), .long ab, .long be, .ref (q 5), .int fe, .int fc, .int mo, .ref (q 6), .ref (q 7), .int bl, .int ta, .int tl, .int tk, .int va, .ref (q 8), .ref (q 9)]
def fr (a b : Nat) : Nat := if a < b then b - a else a - b
def evn (d : Int32) : Bool := decide (d - d / 2 * 2 = 0)
/-- does one of this kind turn -/
def tk (kd far : Nat) (own nob ev : Bool) : Bool :=
  if kd = 1 then decide (far ≤ 3) && own
  else if kd = 2 then decide (far ≤ 1)
  else if kd = 3 then decide (far ≤ 6)
  else if kd = 4 then decide (far ≤ 6) && ev
  else if kd = 5 then (decide (far ≤ 3) && own) || (nob && decide (far ≤ 6))
  else decide (far ≤ 3)
def hnd (a f : Nat → Int32) (k : Nat) : Nat → Int32 := fun p => if p < k then a (5 + p) else f p
theorem hnd_0 (a f : Nat → Int32) : hnd a f 0 = f := by funext p; simp [hnd]
theorem hnd_s (a f : Nat → Int32) (k : Nat) : upd (hnd a f k) k (a (5 + k)) = hnd a f (k + 1) := by
  funext p
  by_cases h : p = k
  · subst h; simp [upd, hnd]
  · by_cases h2 : p < k
    · simp [upd, hnd, h, h2, show p < k + 1 by omega]
    · simp [upd, hnd, h, h2, show ¬ p < k + 1 by omega]
/-- who bears x, of the first n -/
def bo (g : Nat → Int32) (x : Int32) (n : Nat) : Nat := bs (fun p => decide (g p = x)) n
/-- would p turn at x called from pl -/
def tB (a g : Nat → Int32) (x : Int32) (pl n : Nat) : Nat → Bool := fun p => tk (tn (a (19 + p))) (fr (tn (a (12 + p))) pl) (decide (g p = x)) (decide (bo g x n = 0)) (evn (a 1))
def tS (a g : Nat → Int32) (x : Int32) (pl n : Nat) : Nat := bs (tB a g x pl n) n
def gt (g : Nat → Int32) (x : Int32) (w k : Nat) : Nat → Int32 := fun p => if p < k then (if w.testBit p then x else if g p = x then -1 else g p) else g p
theorem gt_0 (g : Nat → Int32) (x : Int32) (w : Nat) : gt g x w 0 = g := by funext p; simp [gt]
theorem gt_k (g : Nat → Int32) (x : Int32) (w k : Nat) : gt g x w k k = g k := by simp [gt]
theorem gt_s (g : Nat → Int32) (x : Int32) (w k : Nat) (v : Int32) (h : v = if w.testBit k then x else if g k = x then -1 else g k) : upd (gt g x w k) k v = gt g x w (k + 1) := by
  subst h
  funext p
  by_cases h : p = k
  · subst h; simp [upd, gt]
  · by_cases h2 : p < k
    · simp [upd, gt, h, h2, show p < k + 1 by omega]
    · simp [upd, gt, h, h2, show ¬ p < k + 1 by omega]
def gT (g : Nat → Int32) (x : Int32) (w n : Nat) : Nat → Int32 := if w = 0 then g else gt g x w n
def ow (g : Nat → Int32) (n : Nat) : Nat := ct (fun p => decide (g p = nI p)) n
theorem ct_yes {p : Nat → Bool} {k : Nat} (h : p k = true) : ct p (k + 1) = ct p k + 1 := by rw [ct, if_pos h]
theorem ct_no {p : Nat → Bool} {k : Nat} (h : p k = false) : ct p (k + 1) = ct p k := by rw [ct, if_neg (by rw [h]; exact Bool.noConfusion), Nat.add_zero]
theorem fr_of {a b : Nat} (ha : a < 2147483648) (hb : b < 2147483648) : nI (fr a b) = nI (if a < b then b - a else a - b) := rfl
/-- the fields of a run of n cells from 'to' on, copied from 'from' on -/
def cpy (a : Nat → Int32) (fr to k : Nat) : Nat → Int32 := fun j => if to ≤ j ∧ j < to + k then a (fr + (j - to)) else a j
theorem cpy_0 (a : Nat → Int32) (fr to : Nat) : cpy a fr to 0 = a := by funext j; simp only [cpy]; rw [if_neg (by omega)]
theorem cpy_out {a : Nat → Int32} {fr to k j : Nat} (h : j < to ∨ to + k ≤ j) : cpy a fr to k j = a j := by simp only [cpy]; rw [if_neg (by omega)]
theorem cpy_in {a : Nat → Int32} {fr to k j : Nat} (h : to ≤ j) (h2 : j < to + k) : cpy a fr to k j = a (fr + (j - to)) := by simp only [cpy]; rw [if_pos ⟨h, h2⟩]
theorem cpy_s (a : Nat → Int32) (fr to k : Nat) : upd (cpy a fr to k) (to + k) (a (fr + k)) = cpy a fr to (k + 1) := by
  funext j
  by_cases h : j = to + k
  · subst h; simp only [upd, if_pos, cpy]; rw [if_pos (by omega), show to + k - to = k by omega]
  · simp only [upd, if_neg h, cpy]
    by_cases h2 : to ≤ j ∧ j < to + k
    · rw [if_pos h2, if_pos (by omega)]
    · rw [if_neg h2, if_neg (by omega)]
def kpG (a : Nat → Int32) (u : Nat) : Nat → Int32 := upd (upd (cpy a 5 (68 + 15 * u) 14) (68 + 15 * u + 14) (a 1)) 4 (nI (u + 1))
def kpF (a : Nat → Int32) : Nat → Int32 := if tn (a 4) = 8 then kpG (upd (cpy a 83 68 105) 4 (nI 7)) 7 else kpG a (tn (a 4))
/-- the names that are borne -/
def N5 (a : Nat → Int32) : Nat → Int32 := fun p => a (5 + p)
def TS (a : Nat → Int32) (x : Int32) (pl n : Nat) : Nat := tS a (N5 a) x pl n
def BO (a : Nat → Int32) (x : Int32) (n : Nat) : Nat := bo (N5 a) x n
def zr (a : Nat → Int32) (k : Nat) : Nat → Int32 := fun j => if j < k then nI 0 else a j
theorem zr_0 (a : Nat → Int32) : zr a 0 = a := by funext j; simp [zr]
theorem zr_s (a : Nat → Int32) (k : Nat) : upd (zr a k) k (nI 0) = zr a (k + 1) := by
  funext p
  by_cases h : p = k
  · subst h; simp [upd, zr]
  · by_cases h2 : p < k
    · simp [upd, zr, h, h2, show p < k + 1 by omega]
    · simp [upd, zr, h, h2, show ¬ p < k + 1 by omega]
def beg (a : Nat → Int32) (dy : Int32) : Nat → Int32 := upd (zr a 68) 1 dy
def layF (a : Nat → Int32) (kd pl n : Nat) : Nat → Int32 := upd (upd (upd (upd a (5 + n) (nI n)) (12 + n) (nI pl)) (19 + n) (nI kd)) 0 (nI (n + 1))
def nmd (a h : Nat → Int32) (k : Nat) : Nat → Int32 := fun j => if 5 ≤ j ∧ j < 5 + k then h (j - 5) else a j
theorem nmd_0 (a h : Nat → Int32) : nmd a h 0 = a := by funext j; simp only [nmd]; rw [if_neg (by omega)]
theorem nmd_s (a h : Nat → Int32) (k : Nat) : upd (nmd a h k) (5 + k) (h k) = nmd a h (k + 1) := by
  funext j
  by_cases e : j = 5 + k
  · subst e; simp only [upd, if_pos, nmd]; rw [if_pos (by omega), show 5 + k - 5 = k by omega]
  · simp only [upd, if_neg e, nmd]
    by_cases h2 : 5 ≤ j ∧ j < 5 + k
    · rw [if_pos h2, if_pos (by omega)]
    · rw [if_neg h2, if_neg (by omega)]
theorem nmd_out {a h : Nat → Int32} {k j : Nat} (e : j < 5 ∨ 5 + k ≤ j) : nmd a h k j = a j := by simp only [nmd]; rw [if_neg (by omega)]
theorem nmd_in {a h : Nat → Int32} {k p : Nat} (e : p < k) : nmd a h k (5 + p) = h p := by simp only [nmd]; rw [if_pos (by omega), show 5 + p - 5 = p by omega]
theorem nmd_cong {a h h' : Nat → Int32} {k : Nat} (e : ∀ p, p < k → h p = h' p) : nmd a h k = nmd a h' k := by
  funext j; simp only [nmd]
  by_cases h2 : 5 ≤ j ∧ j < 5 + k
  · rw [if_pos h2, if_pos h2]; exact e _ (by omega)
  · rw [if_neg h2, if_neg h2]
/-- behind a call of x from pl -/
def calF (a : Nat → Int32) (x : Int32) (pl n : Nat) : Nat → Int32 := nmd (kpF a) (gT (N5 a) x (TS a x pl n) n) n
def undF (a : Nat → Int32) (u : Nat) : Nat → Int32 := upd (cpy (upd a 4 (nI u)) (68 + 15 * u) 5 14) 1 (a (68 + 15 * u + 14))
theorem upd_s (f : Nat → Int32) (k : Nat) (x : Int32) : upd f k x k = x := pk_us
theorem upd_n {f : Nat → Int32} {k j : Nat} {x : Int32} (h : j ≠ k) : upd f k x j = f j := pk_un h
theorem kpG_lo {a : Nat → Int32} {u j : Nat} (h : j < 68) (h4 : j ≠ 4) : kpG a u j = a j := by
  unfold kpG
  rw [upd_n h4, upd_n (by omega), cpy_out (by omega)]
theorem kpF_lo {a : Nat → Int32} {j : Nat} (h : j < 68) (h4 : j ≠ 4) : kpF a j = a j := by
  unfold kpF
  split
  · rw [kpG_lo h h4, upd_n h4, cpy_out (by omega)]
  · rw [kpG_lo h h4]
theorem bo_cong {g g' : Nat → Int32} {x : Int32} {n : Nat} (h : ∀ p, p < n → g p = g' p) : bo g x n = bo g' x n := bs_cong (fun k hk => by rw [h k hk])
theorem tS_cong {a a' g g' : Nat → Int32} {x : Int32} {pl n : Nat} (h1 : ∀ p, p < n → a (19 + p) = a' (19 + p) ∧ a (12 + p) = a' (12 + p)) (h2 : a 1 = a' 1) (h3 : ∀ p, p < n → g p = g' p) : tS a g x pl n = tS a' g' x pl n :=
  bs_cong (fun k hk => by simp only [tB]; rw [(h1 k hk).1, (h1 k hk).2, h2, h3 k hk, bo_cong h3])
theorem gT_cong {g g' : Nat → Int32} {x : Int32} {w n : Nat} (h : ∀ p, p < n → g p = g' p) : ∀ p, p < n → gT g x w n p = gT g' x w n p := by
  intro p hp
  unfold gT
  split
  · exact h p hp
  · simp only [gt, if_pos hp, h p hp]
theorem hnd_in {a f : Nat → Int32} {k p : Nat} (h : p < k) : hnd a f k p = a (5 + p) := by simp [hnd, h]
def nmB (a : Nat → Int32) (wh n : Nat) : Nat → Bool := fun m => if wh = 0 then decide (ct (BO a (nI m) n).testBit 31 = 0) else decide (1 < ct (BO a (nI m) n).testBit 31)
theorem inB_ok {k n : Nat} (h : k < n) (hn : n ≤ 2147483648) : inB (nI k) n = true := by rw [inB_nI (by omega)]; simp [h]
theorem inlC {x : Int32} {c : Int64} {n : Nat} (h : c.toInt + 1 = n) : (decide ((0 : Int64) ≤ x.toInt64) && decide (x.toInt64 ≤ c)) = inB x n := by
  simp only [inB, fa_le64, Int32.toInt_toInt64]
  have h0 : (0 : Int64).toInt = 0 := by decide
  rw [h0]
  by_cases h1 : 0 ≤ x.toInt <;> by_cases h2 : x.toInt < n <;> simp [h1, h2] <;> omega
