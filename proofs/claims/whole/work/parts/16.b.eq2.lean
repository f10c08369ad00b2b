/-! ===== class and reference: own, calls, deeds ===== -/
theorem owS_tb (bn : Nat → Nat) (p : Nat) : (owS bn).testBit p = (decide (p < 7) && (bn p).testBit p) := by rw [owS, bs_tb]
theorem obh_eq {g : Nat → Int32} {bn : Nat → Nat} {n x t : Nat} (h : RB g bn n) (hx : x < n) (ht : t < 128) : obh (owS bn) x t = owS (stl bn x t) := by
  have hn := h.2.2
  apply Nat.eq_of_testBit_eq
  intro p
  rw [owS_tb]
  unfold obh stl
  by_cases h0 : t = 0
  · rw [if_pos h0, if_pos h0, owS_tb]
  · rw [if_neg h0, if_neg h0]
    rw [Nat.testBit_or, Nat.testBit_and, Nat.testBit_two_pow]
    by_cases hp : p < 7
    · rw [andn_tb (by omega), owS_tb, Nat.testBit_or, Nat.testBit_two_pow, decide_eq_true hp, Bool.true_and, Bool.true_and]
      by_cases e : p = x
      · rw [e, un_s]; simp
      · rw [un_n e, if_pos hp, andn_tb (by omega), decide_eq_false (show ¬ x = p from fun q => e q.symm)]; simp
    · rw [decide_eq_false hp, Bool.false_and, tb128 ht (by omega), andn, bs_tb, owS_tb, decide_eq_false hp]; simp
theorem RB_oB {a g : Nat → Int32} {kd pl bn ao at1 an : Nat → Nat} {n c : Nat} (h : RB g bn n) (hk : RKP a kd pl n) (hc : c < 10 * n) : oB (hL kd pl (a 1) true false n ao 10) (hL kd pl (a 1) false false n at1 10) (hL kd pl (a 1) false true n an 10) bn c = ow (cl a g c n) n := by
  have hn := h.2.2
  unfold oB
  rw [RB_htr h hk (by omega) (Nat.mod_lt _ (by decide)), obh_eq h (by omega) (show tS a g (nI (c / 10)) (c % 10) n < 128 from bs_lt' _ (m := 7) hn)]
  exact RB_ow (RB_stl h (by omega) tS_lt)
theorem RB_tl1 {a : Nat → Int32} {kd pl bn ao at1 an : Nat → Nat} {n : Nat} {t : Int32 × Int32 × Int32} (h : RB (N5 a) bn n) (hk : RKP a kd pl n) : ∀ k, k ≤ 10 * n → tl1 (hL kd pl (a 1) true false n ao 10) (hL kd pl (a 1) false false n at1 10) (hL kd pl (a 1) false true n an 10) bn t k = jd1 a n t k
  | 0, _ => rfl
  | k + 1, hl => by rw [tl1, jd1, RB_tl1 h hk k (by omega), RB_oB h hk (by omega)]
theorem RB_tl2 {a : Nat → Int32} {kd pl bn ao at1 an : Nat → Nat} {n c : Nat} {t : Int32 × Int32 × Int32} (h : RB (cl a (N5 a) c n) bn n) (hk : RKP a kd pl n) : ∀ k, k ≤ 10 * n → tl2 (hL kd pl (a 1) true false n ao 10) (hL kd pl (a 1) false false n at1 10) (hL kd pl (a 1) false true n an 10) bn c t k = jd3 a n c t k
  | 0, _ => rfl
  | k + 1, hl => by rw [tl2, jd3, RB_tl2 h hk k (by omega), RB_oB h hk (by omega)]
theorem RB_tl3 {a : Nat → Int32} {kd pl bn ao at1 an : Nat → Nat} {n : Nat} {t : Int32 × Int32 × Int32} (h : RB (N5 a) bn n) (hk : RKP a kd pl n) : ∀ k, k ≤ 10 * n → tl3 (hL kd pl (a 1) true false n ao 10) (hL kd pl (a 1) false false n at1 10) (hL kd pl (a 1) false true n an 10) bn n t k = jd2 a n t k
  | 0, _ => rfl
  | k + 1, hl => by rw [tl3, jd2, RB_tl3 h hk k (by omega), RB_tl2 (RB_cO h hk (by omega)) hk _ (Nat.le_refl _)]
theorem RB_own {a : Nat → Int32} {kd pl bn ao at1 an : Nat → Nat} {n : Nat} {fe fc : Int32} (h : RB (N5 a) bn n) (hk : RKP a kd pl n) : oaF (hL kd pl (a 1) true false n ao 10) (hL kd pl (a 1) false false n at1 10) (hL kd pl (a 1) false true n an 10) bn n = owF a n fe fc := by
  unfold oaF owF
  have e : jd0 a n (-1, fe, fc) = (nI (ct (owS bn).testBit 31), nI 0, -1) := by
    rw [RB_ow h]
    unfold jd0 jd
    have hl : ow (N5 a) n ≤ n := ct_le _ n
    have hn := h.2.2
    rw [if_neg]
    intro q
    rw [Int32.le_iff_toInt_le, nI_toInt (by omega)] at q
    have : (-1 : Int32).toInt = -1 := by decide
    simp only [this] at q
    omega
  rw [e, RB_tl1 h hk _ (Nat.le_refl _), RB_tl3 h hk _ (Nat.le_refl _)]
/-- the first code of 10 n that is of x and does R -/
theorem fi_fo {P R : Nat → Bool} {n x : Nat} (hP : ∀ c, c < 10 * n → P c = (decide (c / 10 = x) && R (c % 10))) (hx : x < n) (hn : n ≤ 7) : fi P (10 * n) = fo R (10 * x) 10 := by
  have h1 : fi P (10 * x) = -1 := fi_all (fun m hm => by rw [hP m (by omega), decide_eq_false (by omega)]; rfl)
  have h2 : ∀ k, k ≤ 10 → fi P (10 * x + k) = fo R (10 * x) k := by
    intro k
    induction k with
    | zero => intro _; exact h1
    | succ k ih =>
      intro hk
      rw [← Nat.add_assoc, fi, fo, ih (by omega), hP _ (by omega), show (10 * x + k) / 10 = x by omega, show (10 * x + k) % 10 = k by omega]
      simp
  rw [← h2 10 (Nat.le_refl _)]
  by_cases e : fi P (10 * x + 10) = -1
  · rw [e]
    refine fi_all (fun m hm => ?_)
    by_cases q : m < 10 * x + 10
    · exact fi_none e (by omega) m q
    · rw [hP m hm, decide_eq_false (by omega)]; rfl
  · exact fi_stay' e (by omega)
theorem RB_lc {a g : Nat → Int32} {kd pl bn ao at1 an : Nat → Nat} {n p x : Nat} (h : RB g bn n) (hk : RKP a kd pl n) (hp : p < n) (hx : x < n) (hne : ¬ g p = nI x) : lcF (hL kd pl (a 1) true false n ao 10) (hL kd pl (a 1) false false n at1 10) (hL kd pl (a 1) false true n an 10) bn p x = fi (fun c => decide (cl a g c n p = nI x)) (10 * n) := by
  have hn := h.2.2
  unfold lcF
  refine (fi_fo (fun c hc => ?_) hx hn).symm
  rw [RB_htr h hk (by omega) (Nat.mod_lt _ (by decide)), show cl a g c n p = gT g (nI (c / 10)) (tS a g (nI (c / 10)) (c % 10) n) n p from rfl]
  generalize ht : tS a g (nI (c / 10)) (c % 10) n = t
  unfold gT
  by_cases e : c / 10 = x
  · rw [decide_eq_true e, Bool.true_and, ← e, ht]
    rw [← e] at hne
    by_cases h0 : t = 0
    · rw [if_pos h0, h0, Nat.zero_testBit]; exact decide_eq_false hne
    · rw [if_neg h0]
      simp only [gt, if_pos hp]
      cases q : t.testBit p
      · rw [if_neg (by decide), if_neg hne]; exact decide_eq_false hne
      · rw [if_pos rfl]; exact decide_eq_true rfl
  · rw [decide_eq_false e, Bool.false_and]
    refine decide_eq_false ?_
    by_cases h0 : t = 0
    · rw [if_pos h0]; exact hne
    · rw [if_neg h0]
      simp only [gt, if_pos hp]
      cases q : t.testBit p
      · rw [if_neg (by decide)]
        by_cases h2 : g p = nI (c / 10)
        · rw [if_pos h2]; exact fun q => nI_m1 (k := x) (by omega) q.symm
        · rw [if_neg h2]; exact hne
      · rw [if_pos rfl]; exact fun q => e ((nJ (by omega) (by omega)).mp q)
