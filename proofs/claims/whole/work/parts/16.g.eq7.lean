theorem tp_sum {a : Nat → Int32} {p x pp n c : Nat} : ∀ N, tpS a p x pp n c N = sS (fun h => if tpC a p x pp n h then prd c h n else 0) N
  | 0 => rfl
  | N + 1 => by rw [tpS, sS, tp_sum N]
theorem tpC_eq {a : Nat → Int32} {p x pp n h : Nat} (hp : p < n) (hx : x < n) (hn : n ≤ 7) : tpC a p x pp n h = (if zT (TS a (nI x) pp n) h n then decide (a (5 + p) = nI x) else ((TS a (nI x) pp n).testBit p && h.testBit p)) := by
  have hT : TS a (nI x) pp n < 2 ^ n := tS_lt
  unfold tpC
  generalize TS a (nI x) pp n = T at *
  unfold gT
  by_cases e : T &&& h = 0
  · rw [if_pos e, if_pos ((zT_iff hT).mpr e)]; rfl
  · rw [if_neg e, if_neg (fun q => e ((zT_iff hT).mp q))]
    simp only [gt, if_pos hp]
    rw [← Nat.testBit_and]
    cases q : (T &&& h).testBit p
    · rw [if_neg (by decide)]
      by_cases h2 : N5 a p = nI x
      · rw [if_pos h2]; exact decide_eq_false (fun q => nI_m1 (k := x) (by omega) q.symm)
      · rw [if_neg h2]; exact decide_eq_false h2
    · rw [if_pos rfl]; exact decide_eq_true rfl
theorem RB_trip {a : Nat → Int32} {bn : Nat → Nat} {p x pp n c : Nat} (h : RB (N5 a) bn n) (hp : p < n) (hx : x < n) (hc : c ≤ 10) : tpS a p x pp n c (2 ^ n) * 10 ^ (ct (TS a (nI x) pp n).testBit 31) = trC (TS a (nI x) pp n) (bn x) p c (ct (TS a (nI x) pp n).testBit 31) * 10 ^ n := by
  have hn := h.2.2
  have hT : TS a (nI x) pp n < 2 ^ n := tS_lt
  rw [ct_tb (n := n) hT (by omega), tp_sum]
  have hb : (bn x).testBit p = decide (a (5 + p) = nI x) := by rw [RB_tb h (by omega), decide_eq_true hp, Bool.true_and]; rfl
  unfold trC
  rw [hb]
  have e1 : sS (fun h => if tpC a p x pp n h then prd c h n else 0) (2 ^ n) = (if a (5 + p) = nI x then FS c n (fun h => zT (TS a (nI x) pp n) h n) else 0) + (if (TS a (nI x) pp n).testBit p then FS c n (fun h => h.testBit p) else 0) := by
    have e2 : (fun h => if tpC a p x pp n h then prd c h n else 0) = fun h => (if zT (TS a (nI x) pp n) h n && decide (a (5 + p) = nI x) then prd c h n else 0) + (if (TS a (nI x) pp n).testBit p && h.testBit p then prd c h n else 0) := by
      funext h
      rw [tpC_eq hp hx hn]
      cases q : zT (TS a (nI x) pp n) h n
      · simp
      · have hz := (zT_bits n).mp q p hp
        rw [Nat.testBit_and] at hz
        rw [hz]; simp
    rw [e2, sS_add]
    congr 1
    · by_cases g : a (5 + p) = nI x
      · rw [if_pos g, decide_eq_true g]; simp only [Bool.and_true]; rfl
      · rw [if_neg g, decide_eq_false g]; simp only [Bool.and_false]; exact sS_zero _
    · cases q : (TS a (nI x) pp n).testBit p
      · simp only [Bool.false_and]; exact sS_zero _
      · simp only [Bool.true_and]; rfl
  rw [e1, Nat.add_mul, Nat.add_mul, Nat.add_comm]
  congr 1
  · cases q : (TS a (nI x) pp n).testBit p
    · simp
    · have hm := ct_pos (p := (TS a (nI x) pp n).testBit) hp q
      obtain ⟨m, hm2⟩ : ∃ m, ct (TS a (nI x) pp n).testBit n = m + 1 := ⟨ct (TS a (nI x) pp n).testBit n - 1, by omega⟩
      rw [hm2, if_pos rfl, if_pos rfl, Nat.pow_succ, Nat.mul_div_cancel _ (by decide)]
      have := FS_bit (c := c) hc n hp
      rw [show FS c n (fun h => h.testBit p) * (10 ^ m * 10) = FS c n (fun h => h.testBit p) * 10 * 10 ^ m by simp only [Nat.mul_comm, Nat.mul_left_comm, Nat.mul_assoc], this]
      simp only [Nat.mul_comm, Nat.mul_left_comm, Nat.mul_assoc]
  · by_cases g : a (5 + p) = nI x
    · rw [if_pos g, decide_eq_true g, if_pos rfl, FS_z hc n, Nat.one_mul]
    · rw [if_neg g, decide_eq_false g]; simp
