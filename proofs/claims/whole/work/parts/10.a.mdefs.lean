theorem inl_p (x : Int32) : (decide ((1 : Int64) ≤ x.toInt64) && decide (x.toInt64 ≤ 60)) = pB x := by
  simp only [pB, fa_le64, Int32.toInt_toInt64]
  have h9 : (60 : Int64).toInt = 60 := by decide
  have h0 : (1 : Int64).toInt = 1 := by decide
  rw [h9, h0]
theorem pB_ok {k : Nat} (h1 : 1 ≤ k) (h2 : k ≤ 60) : pB (nI k) = true := by
  simp only [pB, nI_toInt (show k < 2147483648 by omega)]
  simp; omega
theorem pB_of {x : Int32} (h : pB x = true) : x = nI (tn x) ∧ 1 ≤ tn x ∧ tn x ≤ 60 := by
  simp only [pB, Bool.and_eq_true, decide_eq_true_eq] at h
  have h2 : inB x 61 = true := by simp only [inB, Bool.and_eq_true, decide_eq_true_eq]; omega
  obtain ⟨e, hl⟩ := inB_of (by decide) h2
  refine ⟨e, ?_, by omega⟩
  have : x.toInt = (tn x : Int) := by rw [e]; rw [nI_toInt (by omega)]; rw [tn_nI (by omega)]
  omega
theorem lN0 : (0 : Int64) = lN 0 := rfl
theorem lN1 : (1 : Int64) = lN 1 := rfl
theorem gcd_s (x y : Nat) : Nat.gcd y (x % y) = Nat.gcd x y := by
  rw [Nat.gcd_comm y (x % y), ← Nat.gcd_rec y x, Nat.gcd_comm]
theorem lcmp0 {y : Nat} (h : y < 9223372036854775808) : lg_cmp (lN y) 0 = 0 ↔ y = 0 := by
  rw [lg_cmp_eq, lN0, pk_lEQ h (by decide)]
theorem lN_ne0 {y : Nat} (h : y < 9223372036854775808) (h0 : 0 < y) : ¬ lN y = 0 := by
  rw [lN0, pk_lEQ h (by decide)]; omega
theorem xor_lt4 {w k : Nat} (h : w < 4) (hk : k < 4) : w ^^^ k < 4 := Nat.xor_lt_two_pow (n := 2) h hk
theorem bwf_s (f : Nat → Nat) (h : Nat → Int32) (k : Nat) : upd (fun j => if j < k then nI (f j) else h j) k (nI (f k)) = fun j => if j < k + 1 then nI (f j) else h j := by
  funext p
  by_cases e : p = k
  · subst e; simp [upd]
  · by_cases h2 : p < k
    · simp [upd, e, h2, show p < k + 1 by omega]
    · simp [upd, e, h2, show ¬ p < k + 1 by omega]
theorem ears_mask {t w p1 p2 : Nat} (ht : t < 2147483648) (hw : w < 4) (h1 : p1 < 7) (h2 : p2 < 7) : nI t &&& (((nI w &&& nI 1) <<< (nI p1 &&& 31)) ^^^ (-1)) &&& (((nI w >>> (nI 1 &&& 31)) <<< (nI p2 &&& 31)) ^^^ (-1)) = nI (andn (andn t (w % 2 * 2 ^ p1)) (w / 2 * 2 ^ p2)) := by
  have q1 : 2 ^ p1 ≤ 2 ^ 6 := Nat.pow_le_pow_right (by decide) (by omega)
  have q2 : 2 ^ p2 ≤ 2 ^ 6 := Nat.pow_le_pow_right (by decide) (by omega)
  have e1 : w % 2 * 2 ^ p1 < 4294967296 := by
    have : w % 2 ≤ 1 := by omega
    have := Nat.mul_le_mul this q1
    omega
  have e2 : w / 2 * 2 ^ p2 < 4294967296 := by
    have : w / 2 ≤ 1 := by omega
    have := Nat.mul_le_mul this q2
    omega
  rw [and1_N, shl_N (by omega) e1, shr_N (by omega) (by decide), Nat.pow_one, shl_N (by omega) e2, andn_N ht, andn_N (andn_lt _ _)]
theorem arS_s {a : Nat → Int32} {p kd pl k : Nat} : arS a p kd pl (k + 1) = (arS a p kd pl k && (decide (¬ a (38 + 5 * k) = nI p) || (tk kd (fr pl (tn (a (38 + 5 * k + 1)))) (decide (a (38 + 5 * k + 3) = nI 1)) false (evn (a (38 + 5 * k + 2))) == decide (a (38 + 5 * k + 4) = nI 1)))) := rfl
theorem lmul10 (k : Nat) : lN (10 ^ k) * 10 = lN (10 ^ (k + 1)) := by
  rw [show (10 : Int64) = lN 10 from rfl, lN_mul, Nat.pow_succ]
theorem wk_next {s : Nat} (h : s < 2147483648) : (lN s * 1103515245 + 12345) - (lN s * 1103515245 + 12345) / 2147483648 * 2147483648 = lN ((s * 1103515245 + 12345) % 2147483648) := by
  rw [show (1103515245 : Int64) = lN 1103515245 from rfl, show (12345 : Int64) = lN 12345 from rfl, show (2147483648 : Int64) = lN 2147483648 from rfl, lN_mul, lN_add, pk_lRem (by omega) (by decide) (by decide)]
theorem wk_div {s c : Nat} (h : s < 2147483648) (hc : 0 < c) (hc2 : c < 9223372036854775808) : lN s / lN c = lN (s / c) := pk_lDiv (by omega) hc hc2
theorem wk_rem {s c : Nat} (h : s < 2147483648) (hc : 0 < c) (hc2 : c < 9223372036854775808) : lN s - lN s / lN c * lN c = lN (s % c) := pk_lRem (by omega) hc hc2
