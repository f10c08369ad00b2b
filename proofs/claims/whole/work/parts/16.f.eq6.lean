/-! ===== class and reference: trippers ===== -/
def sS (f : Nat → Nat) : Nat → Nat
  | 0 => 0
  | h + 1 => sS f h + f h
theorem sS_cong {f g : Nat → Nat} : ∀ {N : Nat}, (∀ h, h < N → f h = g h) → sS f N = sS g N
  | 0, _ => rfl
  | N + 1, h => by rw [sS, sS, sS_cong (fun k hk => h k (by omega)), h N (by omega)]
theorem sS_app (f : Nat → Nat) (N : Nat) : ∀ M, sS f (N + M) = sS f N + sS (fun h => f (N + h)) M
  | 0 => rfl
  | M + 1 => by rw [← Nat.add_assoc, sS, sS, sS_app f N M, Nat.add_assoc]
theorem sS_mul (f : Nat → Nat) (c : Nat) : ∀ N, sS (fun h => f h * c) N = sS f N * c
  | 0 => (Nat.zero_mul c).symm
  | N + 1 => by rw [sS, sS, sS_mul f c N, Nat.add_mul]
theorem sS_add (f g : Nat → Nat) : ∀ N, sS (fun h => f h + g h) N = sS f N + sS g N
  | 0 => rfl
  | N + 1 => by rw [sS, sS, sS, sS_add f g N]; omega
theorem sS_zero : ∀ N, sS (fun _ => 0) N = 0
  | 0 => rfl
  | N + 1 => by rw [sS, sS_zero N]
def FS (c n : Nat) (φ : Nat → Bool) : Nat := sS (fun h => if φ h then prd c h n else 0) (2 ^ n)
theorem prd_hi {c n h : Nat} : ∀ k, k ≤ n → prd c (2 ^ n + h) k = prd c h k
  | 0, _ => rfl
  | k + 1, hk => by rw [prd, prd, prd_hi k (by omega), Nat.testBit_two_pow_add_gt (by omega)]
theorem FS_s (c n : Nat) (φ : Nat → Bool) : FS c (n + 1) φ = FS c n φ * c + FS c n (fun h => φ (2 ^ n + h)) * (10 - c) := by
  unfold FS
  rw [show 2 ^ (n + 1) = 2 ^ n + 2 ^ n by rw [Nat.pow_succ]; omega, sS_app, ← sS_mul, ← sS_mul]
  congr 1
  · refine sS_cong (fun h hh => ?_)
    rw [prd, Nat.testBit_lt_two_pow hh]
    cases φ h <;> simp
  · refine sS_cong (fun h hh => ?_)
    show (if φ (2 ^ n + h) = true then prd c (2 ^ n + h) (n + 1) else 0) = _
    rw [prd, prd_hi n (Nat.le_refl _), Nat.testBit_two_pow_add_eq, Nat.testBit_lt_two_pow hh, if_pos (show (!false) = true from rfl)]
    split <;> simp
theorem FS_cong {c n : Nat} {φ ψ : Nat → Bool} (h : ∀ k, k < 2 ^ n → φ k = ψ k) : FS c n φ = FS c n ψ := sS_cong (fun k hk => by rw [h k hk])
theorem c10 {c x : Nat} (hc : c ≤ 10) : x * c + x * (10 - c) = x * 10 := by rw [← Nat.mul_add, show c + (10 - c) = 10 by omega]
theorem FS_one {c : Nat} (hc : c ≤ 10) : ∀ n, FS c n (fun _ => true) = 10 ^ n
  | 0 => rfl
  | n + 1 => by rw [FS_s, FS_one hc n, c10 hc, Nat.pow_succ]
theorem FS_none {c n : Nat} {φ : Nat → Bool} (h : ∀ k, k < 2 ^ n → φ k = false) : FS c n φ = 0 := by
  rw [FS_cong (ψ := fun _ => false) h]; unfold FS; exact sS_zero _
theorem FS_bit {c : Nat} (hc : c ≤ 10) {p : Nat} : ∀ n, p < n → FS c n (fun h => h.testBit p) * 10 = (10 - c) * 10 ^ n
  | 0, h => absurd h (Nat.not_lt_zero p)
  | n + 1, h => by
    rw [FS_s]
    by_cases e : p = n
    · rw [FS_none (fun k hk => by rw [e]; exact Nat.testBit_lt_two_pow hk), FS_cong (φ := fun h => (2 ^ n + h).testBit p) (ψ := fun _ => true) (fun k hk => by rw [e, Nat.testBit_two_pow_add_eq, Nat.testBit_lt_two_pow hk]; rfl), FS_one hc, Nat.zero_mul, Nat.zero_add, Nat.pow_succ, Nat.mul_comm (10 ^ n) (10 - c), Nat.mul_assoc]
    · rw [FS_cong (φ := fun h => (2 ^ n + h).testBit p) (ψ := fun h => h.testBit p) (fun k hk => Nat.testBit_two_pow_add_gt (by omega) k), c10 hc, FS_bit hc n (by omega), Nat.pow_succ, Nat.mul_assoc]
def zT (T h : Nat) : Nat → Bool
  | 0 => true
  | k + 1 => zT T h k && !(T.testBit k && h.testBit k)
theorem zT_hi {T n h : Nat} : ∀ k, k ≤ n → zT T (2 ^ n + h) k = zT T h k
  | 0, _ => rfl
  | k + 1, hk => by rw [zT, zT, zT_hi k (by omega), Nat.testBit_two_pow_add_gt (by omega)]
theorem FS_z {c T : Nat} (hc : c ≤ 10) : ∀ n, FS c n (fun h => zT T h n) * 10 ^ (ct T.testBit n) = c ^ (ct T.testBit n) * 10 ^ n
  | 0 => rfl
  | n + 1 => by
    have ih := FS_z (c := c) (T := T) hc n
    have e1 : FS c n (fun h => zT T h (n + 1)) = FS c n (fun h => zT T h n) := FS_cong (fun k hk => by rw [zT, Nat.testBit_lt_two_pow hk]; simp)
    rw [FS_s, e1]
    cases hT : T.testBit n
    · have e2 : FS c n (fun h => zT T (2 ^ n + h) (n + 1)) = FS c n (fun h => zT T h n) := FS_cong (fun k hk => by rw [zT, zT_hi n (Nat.le_refl _), hT]; simp)
      rw [e2, c10 hc, ct_no hT, Nat.pow_succ, ← Nat.mul_assoc, ← ih]
      simp only [Nat.mul_comm, Nat.mul_left_comm, Nat.mul_assoc]
    · have e2 : FS c n (fun h => zT T (2 ^ n + h) (n + 1)) = 0 := FS_none (fun k hk => by rw [zT, hT, Nat.testBit_two_pow_add_eq, Nat.testBit_lt_two_pow hk]; simp)
      rw [e2, Nat.zero_mul, Nat.add_zero, ct_yes hT, Nat.pow_succ, Nat.pow_succ, Nat.pow_succ]
      have : FS c n (fun h => zT T h n) * c * (10 ^ ct T.testBit n * 10) = (FS c n (fun h => zT T h n) * 10 ^ ct T.testBit n) * (c * 10) := by simp only [Nat.mul_comm, Nat.mul_left_comm, Nat.mul_assoc]
      rw [this, ih]; simp only [Nat.mul_comm, Nat.mul_left_comm, Nat.mul_assoc]
theorem zT_bits {T h : Nat} : ∀ n, zT T h n = true ↔ ∀ j, j < n → (T &&& h).testBit j = false
  | 0 => ⟨fun _ j hj => absurd hj (Nat.not_lt_zero j), fun _ => rfl⟩
  | n + 1 => by
    rw [zT, Bool.and_eq_true_iff, zT_bits n]
    constructor
    · rintro ⟨h1, h2⟩ j hj
      by_cases e : j = n
      · rw [e, Nat.testBit_and]
        cases q1 : (T.testBit n && h.testBit n)
        · rfl
        · rw [q1] at h2; cases h2
      · exact h1 j (by omega)
    · intro h1
      refine ⟨fun j hj => h1 j (by omega), ?_⟩
      have := h1 n (by omega)
      rw [Nat.testBit_and] at this
      rw [this]; rfl
theorem zT_iff {T h n : Nat} (hT : T < 2 ^ n) : zT T h n = true ↔ T &&& h = 0 := by
  rw [zT_bits]
  constructor
  · intro h1
    apply Nat.eq_of_testBit_eq
    intro j
    rw [Nat.zero_testBit]
    by_cases e : j < n
    · exact h1 j e
    · rw [Nat.testBit_and, Nat.testBit_lt_two_pow (Nat.lt_of_lt_of_le hT (Nat.pow_le_pow_right (n := 2) (by decide) (by omega))), Bool.false_and]
  · intro h1 j _
    rw [h1, Nat.zero_testBit]
theorem fr_red {o1 w1 o2 w2 : Nat} (h1 : 0 < w1) (h2 : 0 < w2) (h : o1 * w2 = o2 * w1) : o1 / Nat.gcd o1 w1 = o2 / Nat.gcd o2 w2 ∧ w1 / Nat.gcd o1 w1 = w2 / Nat.gcd o2 w2 := by
  have hg : Nat.gcd o1 w1 * w2 = Nat.gcd o2 w2 * w1 := by rw [← Nat.gcd_mul_right, ← Nat.gcd_mul_right, h, Nat.mul_comm w1 w2]
  have g1 := Nat.gcd_pos_of_pos_right o1 h1
  have g2 := Nat.gcd_pos_of_pos_right o2 h2
  obtain ⟨s, hs⟩ := Nat.gcd_dvd_left o1 w1
  obtain ⟨t, ht⟩ := Nat.gcd_dvd_left o2 w2
  obtain ⟨u, hu⟩ := Nat.gcd_dvd_right o1 w1
  obtain ⟨v, hv⟩ := Nat.gcd_dvd_right o2 w2
  generalize Nat.gcd o1 w1 = d at *
  generalize Nat.gcd o2 w2 = e at *
  have huv : u = v := by
    rw [hu, hv] at hg
    have : d * e * v = d * e * u := by rw [Nat.mul_assoc, hg]; simp only [Nat.mul_comm, Nat.mul_left_comm]
    exact (Nat.eq_of_mul_eq_mul_left (Nat.mul_pos g1 g2) this).symm
  have hu0 : 0 < u := Nat.pos_of_ne_zero (fun q => by rw [q, Nat.mul_zero] at hu; omega)
  have hst : s = t := by
    rw [hs, ht, hu, hv, ← huv] at h
    have : d * e * u * s = d * e * u * t := by
      have e1 : d * e * u * s = d * s * (e * u) := by simp only [Nat.mul_comm, Nat.mul_left_comm]
      have e2 : d * e * u * t = e * t * (d * u) := by simp only [Nat.mul_comm, Nat.mul_left_comm]
      rw [e1, e2, h]
    exact Nat.eq_of_mul_eq_mul_left (Nat.mul_pos (Nat.mul_pos g1 g2) hu0) this
  rw [hs, ht, hu, hv, Nat.mul_div_cancel_left _ g1, Nat.mul_div_cancel_left _ g2, Nat.mul_div_cancel_left _ g1, Nat.mul_div_cancel_left _ g2]
  exact ⟨hst, huv⟩
