/-! ===== truth values, numbers, sets of bits ===== -/
def bI (b : Bool) : Int32 := if b then 1 else 0
theorem nar_bI (b : Bool) : narrow .boolean (.int (bI b)) = .int (bI b) := by cases b <;> decide +kernel
theorem bI_t : bI true = 1 := rfl
theorem bI_f : bI false = 0 := rfl
theorem bI_0 (b : Bool) : bI b = 0 ↔ b = false := by cases b <;> decide
theorem bI_1 (b : Bool) : bI b = 1 ↔ b = true := by cases b <;> decide
theorem bI_N1 (b : Bool) : bI b = nI 1 ↔ b = true := by cases b <;> decide
theorem bI_N0 (b : Bool) : bI b = nI 0 ↔ b = false := by cases b <;> decide
theorem bI_1e {b : Bool} (h : b = true) : Value.int (bI b) = .int (nI 1) := by rw [h]; rfl
theorem bI_0e {b : Bool} (h : b = false) : Value.int (bI b) = .int (nI 0) := by rw [h]; rfl
theorem bI_inj {a b : Bool} : bI a = bI b ↔ a = b := by cases a <;> cases b <;> decide
section GB
variable {K : Kx} {E : Ew} {cc : ByteArray} {nL d pc : Nat} {own : String} {ws : va_W} {lv : List (Nat × Value)} {st : List Value}
theorem g_if_eqB (hC : Cx K E cc nL own d) {b : Bool} {off : Int} {tgt : Nat} (hd : decode cc pc = .ok (.ifCond .eq off, 3)) (ht : (pc : Int) + off = (tgt : Int)) (kt : b = false → G K E nL ws lv tgt st) (kf : b = true → G K E nL ws lv (pc + 3) st) : G K E nL ws lv pc (.int (bI b) :: st) := g_if_eq hC hd ht (fun h => kt ((bI_0 b).mp h)) (fun h => kf (by cases b; exact absurd rfl h; rfl))
theorem g_if_neB (hC : Cx K E cc nL own d) {b : Bool} {off : Int} {tgt : Nat} (hd : decode cc pc = .ok (.ifCond .ne off, 3)) (ht : (pc : Int) + off = (tgt : Int)) (kt : b = true → G K E nL ws lv tgt st) (kf : b = false → G K E nL ws lv (pc + 3) st) : G K E nL ws lv pc (.int (bI b) :: st) := g_if_ne hC hd ht (fun h => kt (by cases b; exact absurd rfl h; rfl)) (fun h => kf ((bI_0 b).mp h))
theorem g_iincD (hC : Cx K E cc nL own d) {i q a : Nat} (n : Nat) {z : Int} (lv' : List (Nat × Value)) (hd : decode cc pc = .ok (.iinc i z, 3)) (hz : Int32.ofInt z = -nI n) (hq : lv[q]? = some (i, .int (nI a))) (h : n ≤ a) (hn : i < nL) (hl' : (i, Value.int (nI (a - n))) :: lv.filter (fun q => !(q.1 == i) && !(q.1 + 1 == i && q.2.category == 2)) = lv') (k : G K E nL ws lv' (pc + 3) st) : G K E nL ws lv pc st := g_iinc hC lv' hd hq (by rw [hz, ← Int32.sub_eq_add_neg, pk_sub h]) hn hl' k
theorem g_mabs (hC : Cx K E cc nL own d) {index : Nat} {x : Int32} (hm : Cond.methodLink own index Lib.Math.abs.name ∈ lw_G) (hs : Cond.static Lib.Math.abs.name ∈ lw_G) (hi : Cond.initialized "java/lang/Math" ∈ lw_G) (hc : Cond.code Lib.Math.abs.name Lib.Math.abs.code 1 (some .int) ∈ lw_G) (hd : decode cc pc = .ok (.invokestatic index, 3)) (hdd : 1 ≤ d) (hst : (st.map fun v => v.category).sum + 13 ≤ 40) (k : G K E nL ws lv (pc + 3) (.int (if 0 ≤ x then x else 0 - x) :: st)) : G K E nL ws lv pc (.int x :: st) := fun H locs ls hP hD hS hl =>
  va_mabs hC.1 hC.2.1 (by rw [hC.2.2.1]; exact hl.1.symm) hC.2.2.2.1 (hC.2.2.2.2.1 _ hm) (hC.2.2.2.2.1 _ hs) (hC.2.2.2.2.1 _ hi) (hC.2.2.2.2.1 _ hc) (Nat.le_trans hdd hC.2.2.2.2.2.2.2.2.1) (by have h9 := hC.2.2.2.2.2.2.2.2.2.1; omega) hC.2.2.2.2.2.2.2.2.2.2.1 hC.2.2.2.2.2.2.2.2.2.2.2 hd (k H locs ls hP hD hS hl)
theorem g_mmax (hC : Cx K E cc nL own d) {index : Nat} {x y : Int32} (hm : Cond.methodLink own index Lib.Math.max.name ∈ lw_G) (hs : Cond.static Lib.Math.max.name ∈ lw_G) (hi : Cond.initialized "java/lang/Math" ∈ lw_G) (hc : Cond.code Lib.Math.max.name Lib.Math.max.code 2 (some .int) ∈ lw_G) (hd : decode cc pc = .ok (.invokestatic index, 3)) (hdd : 1 ≤ d) (hst : (st.map fun v => v.category).sum + 13 ≤ 40) (k : G K E nL ws lv (pc + 3) (.int (if x < y then y else x) :: st)) : G K E nL ws lv pc (.int y :: .int x :: st) := fun H locs ls hP hD hS hl =>
  va_mmax hC.1 hC.2.1 (by rw [hC.2.2.1]; exact hl.1.symm) hC.2.2.2.1 (hC.2.2.2.2.1 _ hm) (hC.2.2.2.2.1 _ hs) (hC.2.2.2.2.1 _ hi) (hC.2.2.2.2.1 _ hc) (Nat.le_trans hdd hC.2.2.2.2.2.2.2.2.1) (by have h9 := hC.2.2.2.2.2.2.2.2.2.1; omega) hC.2.2.2.2.2.2.2.2.2.2.1 hC.2.2.2.2.2.2.2.2.2.2.2 hd (k H locs ls hP hD hS hl)
end GB
theorem tab_out {n lo hi : Nat} (h : n < lo ∨ hi < n) (hn : n < 2147483648) : (nI n).toInt < (lo : Int) ∨ (hi : Int) < (nI n).toInt := by
  rw [nI_toInt hn]; omega
def tn (x : Int32) : Nat := x.toNatClampNeg
theorem tn_nI {k : Nat} (h : k < 2147483648) : tn (nI k) = k := nI_clamp h
def isN (x : Int32) (b : Nat) : Prop := x = nI (tn x) ∧ tn x < b
theorem isN_nI {k b : Nat} (h : k < b) (hb : b ≤ 2147483648) : isN (nI k) b := by
  have e : tn (nI k) = k := tn_nI (by omega)
  exact ⟨by rw [e], by rw [e]; exact h⟩
/-- in [0, n) -/
def inB (x : Int32) (n : Nat) : Bool := decide (0 ≤ x.toInt) && decide (x.toInt < n)
theorem inB_of {x : Int32} {n : Nat} (hn : n ≤ 2147483648) (h : inB x n = true) : x = nI (tn x) ∧ tn x < n := by
  simp only [inB, Bool.and_eq_true, decide_eq_true_eq] at h
  obtain ⟨j, hj, e⟩ := nI_of (x := x) (by rw [fa_lt]; show ¬ x.toInt < 0; omega)
  have e2 : tn x = j := by rw [e]; exact tn_nI hj
  have h3 : x.toInt = (j : Int) := by rw [e]; exact nI_toInt hj
  exact ⟨by rw [e2]; exact e, by omega⟩
theorem inB_nI {k n : Nat} (hk : k < 2147483648) : inB (nI k) n = decide (k < n) := by
  simp only [inB, nI_toInt hk]
  by_cases h : k < n <;> simp [h]
/-- bits below n at which p holds -/
def bs (p : Nat → Bool) : Nat → Nat
  | 0 => 0
  | n + 1 => bs p n + if p n then 2 ^ n else 0
theorem bs_lt (p : Nat → Bool) : ∀ n, bs p n < 2 ^ n
  | 0 => Nat.zero_lt_one
  | n + 1 => by
    have h := bs_lt p n
    have h2 : 2 ^ (n + 1) = 2 ^ n + 2 ^ n := by rw [Nat.pow_succ]; omega
    rw [bs, h2]
    split <;> omega
theorem bs_lt' (p : Nat → Bool) {n m : Nat} (h : n ≤ m) : bs p n < 2 ^ m := Nat.lt_of_lt_of_le (bs_lt p n) (Nat.pow_le_pow_right (by decide) h)
theorem bs_cong {p q : Nat → Bool} : ∀ {n : Nat}, (∀ k, k < n → p k = q k) → bs p n = bs q n
  | 0, _ => rfl
  | n + 1, h => by rw [bs, bs, bs_cong (fun k hk => h k (by omega)), h n (by omega)]
theorem bs_tb (p : Nat → Bool) : ∀ (n i : Nat), (bs p n).testBit i = (decide (i < n) && p i)
  | 0, i => by simp [bs]
  | n + 1, i => by
    have ih := bs_tb p n
    rw [bs]
    by_cases hp : p n = true
    · rw [if_pos hp, Nat.add_comm]
      have h := Nat.two_pow_add_eq_or_of_lt (bs_lt p n) 1
      rw [Nat.mul_one] at h
      rw [h, Nat.testBit_or, Nat.testBit_two_pow, ih i]
      by_cases hi : i = n
      · subst hi; simp [hp]
      · have hi' : ¬ n = i := fun e => hi e.symm
        by_cases h2 : i < n
        · simp [hi', h2, show i < n + 1 by omega]
        · simp [hi', h2, show ¬ i < n + 1 by omega]
    · rw [if_neg hp, Nat.add_zero, ih i]
      by_cases hi : i = n
      · subst hi
        have : p i = false := by simpa using hp
        simp [this]
      · by_cases h2 : i < n
        · simp [h2, show i < n + 1 by omega]
        · simp [h2, show ¬ i < n + 1 by omega]
theorem sh1 {k : Nat} (h : k < 31) : nI 1 <<< (nI k &&& 31) = nI (2 ^ k) := by
  have := pk_shlN (n := 1) (nI k &&& 31) k (s_l k (by omega)) (by
    have : 2 ^ k ≤ 2 ^ 30 := Nat.pow_le_pow_right (by decide) (by omega)
    omega)
  rw [this, Nat.one_mul]
theorem sh1' {k : Nat} (h : k < 31) : (1 : Int32) <<< (nI k &&& 31) = nI (2 ^ k) := sh1 h
theorem bs_yes {p : Nat → Bool} {k : Nat} (hk : k < 31) (h : p k = true) : nI (bs p k) ||| (nI 1 <<< (nI k &&& 31)) = nI (bs p (k + 1)) := by
  rw [sh1 hk, bs, if_pos h, fa_or]
  have h := Nat.two_pow_add_eq_or_of_lt (bs_lt p k) 1
  rw [Nat.mul_one] at h
  rw [Nat.or_comm, ← h, Nat.add_comm]
theorem bs_no {p : Nat → Bool} {k : Nat} (h : p k = false) : nI (bs p k) ||| nI 0 = nI (bs p (k + 1)) := by
  rw [bs, if_neg (by rw [h]; exact Bool.noConfusion), fa_or, Nat.or_zero, Nat.add_zero]
theorem bs_no' {p : Nat → Bool} {k : Nat} (h : p k = false) : bs p (k + 1) = bs p k := by
  rw [bs, if_neg (by rw [h]; exact Bool.noConfusion), Nat.add_zero]
theorem shr_N {x k : Nat} (hx : x < 2147483648) (hk : k < 31) : nI x >>> (nI k &&& 31) = nI (x / 2 ^ k) := pk_shrN hx (nI k &&& 31) k (s_l k (by omega))
theorem and1_N {x : Nat} : nI x &&& nI 1 = nI (x % 2) := by
  rw [fa_and]
  have := Nat.and_two_pow_sub_one_eq_mod x 1
  rw [show (2 : Nat) ^ 1 - 1 = 1 from rfl, show (2 : Nat) ^ 1 = 2 from rfl] at this
  rw [this]
theorem bit_N {x k : Nat} (hx : x < 2147483648) (hk : k < 31) : (nI x >>> (nI k &&& 31)) &&& nI 1 = bI (x.testBit k) := by
  rw [shr_N hx hk, and1_N, Nat.testBit_eq_decide_div_mod_eq]
  have h : x / 2 ^ k % 2 = 0 ∨ x / 2 ^ k % 2 = 1 := by omega
  rcases h with h | h <;> rw [h] <;> decide
/-- how many below n -/
def ct (p : Nat → Bool) : Nat → Nat
  | 0 => 0
  | n + 1 => ct p n + if p n then 1 else 0
theorem ct_le (p : Nat → Bool) : ∀ n, ct p n ≤ n
  | 0 => Nat.le_refl _
  | n + 1 => by have h := ct_le p n; rw [ct]; split <;> omega
theorem ct_cong {p q : Nat → Bool} : ∀ {n : Nat}, (∀ k, k < n → p k = q k) → ct p n = ct q n
  | 0, _ => rfl
  | n + 1, h => by rw [ct, ct, ct_cong (fun k hk => h k (by omega)), h n (by omega)]
theorem ct_out {p : Nat → Bool} {n : Nat} : ∀ (m : Nat), (∀ k, n ≤ k → k < n + m → p k = false) → ct p (n + m) = ct p n
  | 0, _ => rfl
  | m + 1, h => by
    have := ct_out m (fun k h1 h2 => h k h1 (by omega))
    rw [← Nat.add_assoc, ct, this, h (n + m) (by omega) (by omega)]
    simp
theorem ct_tb {x n m : Nat} (hx : x < 2 ^ n) (h : n ≤ m) : ct x.testBit m = ct x.testBit n := by
  obtain ⟨j, rfl⟩ := Nat.exists_eq_add_of_le h
  exact ct_out j (fun k h1 _ => Nat.testBit_lt_two_pow (Nat.lt_of_lt_of_le hx (Nat.pow_le_pow_right (by decide) h1)))
theorem ct_bs (p : Nat → Bool) {n m : Nat} (h : n ≤ m) : ct (bs p n).testBit m = ct p n := by
  rw [ct_tb (bs_lt p n) h]
  exact ct_cong (fun k hk => by rw [bs_tb]; simp [hk])
