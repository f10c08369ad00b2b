/-! ===== the reference's words, on ===== -/
theorem nI_m1 {k : Nat} (h : k < 2147483648) : ¬ nI k = -1 := by
  intro e
  have h1 : (nI k).toInt = (-1 : Int32).toInt := by rw [e]
  rw [nI_toInt h] at h1
  have h2 : (-1 : Int32).toInt = -1 := by decide
  omega
/-- names behind a call of code c -/
def cl (a g : Nat → Int32) (c n : Nat) : Nat → Int32 := gT g (nI (c / 10)) (tS a g (nI (c / 10)) (c % 10) n) n
theorem cl_cong {a g g' : Nat → Int32} {c n : Nat} (h : ∀ p, p < n → g p = g' p) : ∀ p, p < n → cl a g c n p = cl a g' c n p := by
  intro p hp
  unfold cl
  rw [tS_cong (a := a) (a' := a) (fun _ _ => ⟨rfl, rfl⟩) rfl h]
  exact gT_cong h p hp
theorem hnd5 {a f : Nat → Int32} {n : Nat} : ∀ p, p < n → hnd a f n p = N5 a p := fun p hp => hnd_in hp
/-- the first below k, or -1 -/
def fi (P : Nat → Bool) : Nat → Int32
  | 0 => -1
  | k + 1 => if fi P k = -1 then (if P k then nI k else -1) else fi P k
theorem fi_yes {P : Nat → Bool} {k : Nat} (h : fi P k = -1) (hp : P k = true) : fi P (k + 1) = nI k := by rw [fi, if_pos h, if_pos hp]
theorem fi_no {P : Nat → Bool} {k : Nat} (h : fi P k = -1) (hp : P k = false) : fi P (k + 1) = -1 := by rw [fi, if_pos h, if_neg (by rw [hp]; exact Bool.noConfusion)]
theorem fi_stay {P : Nat → Bool} {k : Nat} (h : ¬ fi P k = -1) : ∀ m, fi P (k + m) = fi P k
  | 0 => rfl
  | m + 1 => by
    have e := fi_stay h m
    rw [← Nat.add_assoc, fi, e, if_neg h]
theorem fi_stay' {P : Nat → Bool} {k m : Nat} (h : ¬ fi P k = -1) (hm : k ≤ m) : fi P m = fi P k := by
  obtain ⟨j, rfl⟩ := Nat.exists_eq_add_of_le hm
  exact fi_stay h j
theorem fi_cong {P Q : Nat → Bool} : ∀ {n : Nat}, (∀ k, k < n → P k = Q k) → fi P n = fi Q n
  | 0, _ => rfl
  | n + 1, h => by rw [fi, fi, fi_cong (fun k hk => h k (by omega)), h n (by omega)]
def P1 (a : Nat → Int32) (p x n : Nat) : Nat → Bool := fun c => decide (cl a (N5 a) c n p = nI x)
def P2 (a : Nat → Int32) (p x n c : Nat) : Nat → Bool := fun e => decide (cl a (cl a (N5 a) c n) e n p = nI x)
def Q2 (a : Nat → Int32) (p x n : Nat) : Nat → Bool := fun c => decide (¬ fi (P2 a p x n c) (10 * n) = -1)
def fe1 (a : Nat → Int32) (p x n k : Nat) : Int32 := if N5 a p = nI x then nI 0 else if fi (P1 a p x n) k = -1 then -1 else nI 1
def fc1 (a : Nat → Int32) (p x n k : Nat) : Int32 := if N5 a p = nI x then -1 else fi (P1 a p x n) k
def fe2 (a : Nat → Int32) (p x n k : Nat) : Int32 := if N5 a p = nI x then nI 0 else if fi (P1 a p x n) (10 * n) = -1 then (if fi (Q2 a p x n) k = -1 then -1 else nI 2) else nI 1
def fc2 (a : Nat → Int32) (p x n k : Nat) : Int32 := if N5 a p = nI x then -1 else if fi (P1 a p x n) (10 * n) = -1 then fi (Q2 a p x n) k else fi (P1 a p x n) (10 * n)
theorem fe1_m1 {a : Nat → Int32} {p x n k : Nat} (h : fe1 a p x n k = -1) : ¬ N5 a p = nI x ∧ fi (P1 a p x n) k = -1 := by
  unfold fe1 at h
  by_cases hb : N5 a p = nI x
  · rw [if_pos hb] at h; exact absurd h (by decide)
  · rw [if_neg hb] at h
    by_cases hf : fi (P1 a p x n) k = -1
    · exact ⟨hb, hf⟩
    · rw [if_neg hf] at h; exact absurd h (by decide)
theorem fe1_end {a : Nat → Int32} {p x n k : Nat} (hk : k ≤ 10 * n) (h : k = 10 * n ∨ ¬ fe1 a p x n k = -1) : fe1 a p x n (10 * n) = fe1 a p x n k ∧ fc1 a p x n (10 * n) = fc1 a p x n k := by
  rcases h with h | h
  · rw [h]; exact ⟨rfl, rfl⟩
  · unfold fe1 fc1 at *
    by_cases hb : N5 a p = nI x
    · simp only [if_pos hb]; exact ⟨trivial, trivial⟩
    · simp only [if_neg hb] at h ⊢
      by_cases hf : fi (P1 a p x n) k = -1
      · rw [if_pos hf] at h; exact absurd rfl h
      · rw [fi_stay' hf hk]; exact ⟨rfl, rfl⟩
theorem fe2_m1 {a : Nat → Int32} {p x n k : Nat} (h : fe2 a p x n k = -1) : ¬ N5 a p = nI x ∧ fi (P1 a p x n) (10 * n) = -1 ∧ fi (Q2 a p x n) k = -1 := by
  unfold fe2 at h
  by_cases hb : N5 a p = nI x
  · rw [if_pos hb] at h; exact absurd h (by decide)
  · rw [if_neg hb] at h
    by_cases hf : fi (P1 a p x n) (10 * n) = -1
    · rw [if_pos hf] at h
      by_cases hq : fi (Q2 a p x n) k = -1
      · exact ⟨hb, hf, hq⟩
      · rw [if_neg hq] at h; exact absurd h (by decide)
    · rw [if_neg hf] at h; exact absurd h (by decide)
theorem fe2_0 (a : Nat → Int32) (p x n : Nat) : fe2 a p x n 0 = fe1 a p x n (10 * n) ∧ fc2 a p x n 0 = fc1 a p x n (10 * n) := by
  unfold fe2 fc2 fe1 fc1
  have e : fi (Q2 a p x n) 0 = -1 := rfl
  rw [if_pos e, e]
  by_cases hb : N5 a p = nI x
  · simp only [if_pos hb]; exact ⟨trivial, trivial⟩
  · simp only [if_neg hb]
    by_cases hf : fi (P1 a p x n) (10 * n) = -1
    · simp only [hf, if_true]; exact ⟨trivial, trivial⟩
    · simp only [if_neg hf]; exact ⟨trivial, trivial⟩
theorem fe2_end {a : Nat → Int32} {p x n k : Nat} (hk : k ≤ 10 * n) (h : k = 10 * n ∨ ¬ fe2 a p x n k = -1) : fe2 a p x n (10 * n) = fe2 a p x n k ∧ fc2 a p x n (10 * n) = fc2 a p x n k := by
  rcases h with h | h
  · rw [h]; exact ⟨rfl, rfl⟩
  · unfold fe2 fc2 at *
    by_cases hb : N5 a p = nI x
    · simp only [if_pos hb]; exact ⟨trivial, trivial⟩
    · simp only [if_neg hb] at h ⊢
      by_cases hf : fi (P1 a p x n) (10 * n) = -1
      · simp only [if_pos hf] at h ⊢
        by_cases hq : fi (Q2 a p x n) k = -1
        · rw [if_pos hq] at h; exact absurd rfl h
        · rw [fi_stay' hq hk]; exact ⟨rfl, rfl⟩
      · simp only [if_neg hf]; exact ⟨trivial, trivial⟩
theorem fe1_s {a : Nat → Int32} {p x n k : Nat} (hk : k < 2147483648) (h : fe1 a p x n k = -1) : fe1 a p x n (k + 1) = (if P1 a p x n k then nI 1 else -1) ∧ fc1 a p x n (k + 1) = (if P1 a p x n k then nI k else -1) := by
  obtain ⟨hb, hf⟩ := fe1_m1 h
  unfold fe1 fc1
  simp only [if_neg hb]
  cases hp : P1 a p x n k
  · rw [fi_no hf hp]; simp
  · rw [fi_yes hf hp]; simp [nI_m1 hk]
theorem fe2_s {a : Nat → Int32} {p x n k : Nat} (hk : k < 2147483648) (h : fe2 a p x n k = -1) : fe2 a p x n (k + 1) = (if Q2 a p x n k then nI 2 else -1) ∧ fc2 a p x n (k + 1) = (if Q2 a p x n k then nI k else -1) := by
  obtain ⟨hb, hf, hq⟩ := fe2_m1 h
  unfold fe2 fc2
  simp only [if_neg hb, if_pos hf]
  cases hp : Q2 a p x n k
  · rw [fi_no hq hp]; simp
  · rw [fi_yes hq hp]; simp [nI_m1 hk]
/-- the best so far: how many, by how many calls, the first -/
def jd (t : Int32 × Int32 × Int32) (o : Nat) (c f : Int32) : Int32 × Int32 × Int32 := if nI o ≤ t.1 then t else (nI o, c, f)
def jd0 (a : Nat → Int32) (n : Nat) (t : Int32 × Int32 × Int32) : Int32 × Int32 × Int32 := jd t (ow (N5 a) n) (nI 0) (-1)
def jd1 (a : Nat → Int32) (n : Nat) (t : Int32 × Int32 × Int32) : Nat → Int32 × Int32 × Int32
  | 0 => t
  | k + 1 => jd (jd1 a n t k) (ow (cl a (N5 a) k n) n) (nI 1) (nI k)
def jd3 (a : Nat → Int32) (n c : Nat) (t : Int32 × Int32 × Int32) : Nat → Int32 × Int32 × Int32
  | 0 => t
  | k + 1 => jd (jd3 a n c t k) (ow (cl a (cl a (N5 a) c n) k n) n) (nI 2) (nI c)
def jd2 (a : Nat → Int32) (n : Nat) (t : Int32 × Int32 × Int32) : Nat → Int32 × Int32 × Int32
  | 0 => t
  | k + 1 => jd3 a n k (jd2 a n t k) (10 * n)
def owF (a : Nat → Int32) (n : Nat) (fe fc : Int32) : Int32 × Int32 × Int32 := jd2 a n (jd1 a n (jd0 a n (-1, fe, fc)) (10 * n)) (10 * n)
theorem ow_cong {g g' : Nat → Int32} {n : Nat} (h : ∀ p, p < n → g p = g' p) : ow g n = ow g' n := ct_cong (fun k hk => by rw [h k hk])
/-- the way from p by names -/
def rgF (a : Nat → Int32) (p : Nat) : Nat → Nat → Nat → Nat
  | 0, _, _ => 0
  | f + 1, at', k => if a (5 + at') = -1 then 0 else if a (5 + at') = nI p then k else rgF a p f (tn (a (5 + at'))) (k + 1)
def pN (a : Nat → Int32) (x : Int32) : Nat → Nat
  | 0 => 0
  | k + 1 => pN a x k + if a (26 + 2 * k) = x then tn (a (26 + 2 * k + 1)) else 0
theorem pN_le {a : Nat → Int32} {x : Int32} : ∀ {u : Nat}, (∀ k, k < u → isN (a (26 + 2 * k + 1)) 61) → pN a x u ≤ 60 * u
  | 0, _ => Nat.le_refl _
  | u + 1, h => by
    have h1 := pN_le (a := a) (x := x) (u := u) (fun k hk => h k (by omega))
    have h2 := (h u (by omega)).2
    rw [pN]
    split <;> omega
def pB (x : Int32) : Bool := decide (1 ≤ x.toInt) && decide (x.toInt ≤ 60)
def unF (a : Nat → Int32) (n u : Nat) : Nat → Nat
  | 0 => 0
  | k + 1 => unF a n u k + if BO a (nI k) n = 0 then pN a (nI k) u else 0
/-- t without m, bit by bit -/
def andn (t m : Nat) : Nat := bs (fun i => t.testBit i && !m.testBit i) 31
theorem andn_lt (t m : Nat) : andn t m < 2147483648 := bs_lt _ 31
theorem andn_N {t m : Nat} (ht : t < 2147483648) : nI t &&& (nI m ^^^ (-1)) = nI (andn t m) := by
  apply Int32.toBitVec_inj.1
  show BitVec.ofNat 32 t &&& (BitVec.ofNat 32 m ^^^ BitVec.allOnes 32) = BitVec.ofNat 32 (andn t m)
  apply BitVec.eq_of_getLsbD_eq
  intro i hi
  simp only [BitVec.getLsbD_and, BitVec.getLsbD_xor, BitVec.getLsbD_ofNat, BitVec.getLsbD_allOnes, andn, bs_tb, hi]
  by_cases h31 : i < 31
  · simp [h31]
  · have : t.testBit i = false := Nat.testBit_lt_two_pow (Nat.lt_of_lt_of_le ht (Nat.pow_le_pow_right (n := 2) (by decide) (by omega : 31 ≤ i)))
    simp [h31, this]
theorem andn_tb {t m i : Nat} (h : i < 31) : (andn t m).testBit i = (t.testBit i && !m.testBit i) := by rw [andn, bs_tb]; simp [h]
theorem shl_N {x k : Nat} (hk : k < 31) (h : x * 2 ^ k < 4294967296) : nI x <<< (nI k &&& 31) = nI (x * 2 ^ k) := pk_shlN (nI k &&& 31) k (s_l k (by omega)) h
/-- the bearers behind the call, if those of w stop their ears (1: a, 2: b) -/
def eb (a : Nat → Int32) (p1 p2 x pl n w : Nat) : Nat := bo (gT (N5 a) (nI x) (andn (andn (TS a (nI x) pl n) (w % 2 * 2 ^ p1)) (w / 2 * 2 ^ p2)) n) (nI x) n
def eB (a : Nat → Int32) (p1 p2 x pl n : Nat) : Nat → Bool := fun w => ((eb a p1 p2 x pl n w).testBit p1 || !(eb a p1 p2 x pl n (w ^^^ 1)).testBit p1) && ((eb a p1 p2 x pl n w).testBit p2 || !(eb a p1 p2 x pl n (w ^^^ 2)).testBit p2)
def ntF (a : Nat → Int32) (p x d bo tu v : Nat) : Nat → Int32 := upd (upd (upd (upd (upd (upd a (38 + 5 * v) (nI p)) (38 + 5 * v + 1) (nI x)) (38 + 5 * v + 2) (nI d)) (38 + 5 * v + 3) (nI bo)) (38 + 5 * v + 4) (nI tu)) 3 (nI (v + 1))
def ddF (a : Nat → Int32) (x pe u : Nat) : Nat → Int32 := upd (upd (upd a (26 + 2 * u) (nI x)) (26 + 2 * u + 1) (nI pe)) 2 (nI (u + 1))
/-- are p's notes so -/
def arS (a : Nat → Int32) (p kd pl : Nat) : Nat → Bool
  | 0 => true
  | k + 1 => arS a p kd pl k && (decide (¬ a (38 + 5 * k) = nI p) || (tk kd (fr pl (tn (a (38 + 5 * k + 1)))) (decide (a (38 + 5 * k + 3) = nI 1)) false (evn (a (38 + 5 * k + 2))) == decide (a (38 + 5 * k + 4) = nI 1)))
def isS (a : Nat → Int32) (p v : Nat) : Nat := bs (fun kd => arS a p kd (tn (a (12 + p))) v) 6
def plS (a : Nat → Int32) (p v : Nat) : Nat := bs (fun pl => arS a p (tn (a (19 + p))) pl v) 10
def nxY (a : Nat → Int32) (p v x : Nat) : Nat → Bool := fun pl => (plS a p v).testBit pl && tk (tn (a (19 + p))) (fr pl x) false false (evn (a 1))
def nxG (a : Nat → Int32) (p v x : Nat) : Nat := if ct (plS a p v).testBit 31 < 2 * ct (nxY a p v x) 10 then ct (nxY a p v x) 10 else ct (plS a p v).testBit 31 - ct (nxY a p v x) 10
def nxF (a : Nat → Int32) (p v : Nat) : Nat → Int32 × Nat
  | 0 => (-1, 1000000)
  | k + 1 => if nxG a p v k < (nxF a p v k).2 then (nI k, nxG a p v k) else nxF a p v k
theorem ct_sub {p q : Nat → Bool} : ∀ {n : Nat}, (∀ k, k < n → p k = true → q k = true) → ct p n ≤ ct q n
  | 0, _ => Nat.le_refl _
  | n + 1, h => by
    have h1 := ct_sub (p := p) (q := q) (n := n) (fun k hk => h k (by omega))
    have h2 := h n (by omega)
    rw [ct, ct]
    cases hp : p n
    · split <;> simp_all <;> omega
    · rw [h2 hp]; simp; omega
def prd (c h : Nat) : Nat → Nat
  | 0 => 1
  | k + 1 => prd c h k * (if h.testBit k then 10 - c else c)
def tpC (a : Nat → Int32) (p x pl n h : Nat) : Bool := decide (gT (N5 a) (nI x) (TS a (nI x) pl n &&& h) n p = nI x)
def tpS (a : Nat → Int32) (p x pl n c : Nat) : Nat → Nat
  | 0 => 0
  | h + 1 => tpS a p x pl n c h + if tpC a p x pl n h then prd c h n else 0
theorem prd_le {c : Nat} (hc : c ≤ 10) (h : Nat) : ∀ k, prd c h k ≤ 10 ^ k
  | 0 => Nat.le_refl _
  | k + 1 => by
    have ih := prd_le hc h k
    rw [prd, Nat.pow_succ]
    exact Nat.mul_le_mul ih (by split <;> omega)
theorem tpS_le {a : Nat → Int32} {p x pl n c : Nat} (hc : c ≤ 10) : ∀ h, tpS a p x pl n c h ≤ h * 10 ^ n
  | 0 => by simp [tpS]
  | h + 1 => by
    have ih := tpS_le (a := a) (p := p) (x := x) (pl := pl) (n := n) hc h
    have := prd_le hc h n
    rw [tpS, Nat.add_mul]
    split <;> omega
def wX (s : Nat) : Nat → Nat
  | 0 => s
  | k + 1 => (wX s k * 1103515245 + 12345) % 2147483648
def wG (a g : Nat → Int32) (n s : Nat) : Nat → Nat → Int32
  | 0 => g
  | k + 1 => gT (wG a g n s k) (nI (wX s (k + 1) / 65536 % n)) (tS a (wG a g n s k) (nI (wX s (k + 1) / 65536 % n)) (wX s (k + 1) / 1048576 % 10) n) n
theorem wX_lt {s : Nat} (h : s < 2147483648) : ∀ k, wX s k < 2147483648
  | 0 => h
  | k + 1 => Nat.mod_lt _ (by decide)
theorem wG_cong {a g g' : Nat → Int32} {n s : Nat} (h : ∀ p, p < n → g p = g' p) : ∀ k p, p < n → wG a g n s k p = wG a g' n s k p
  | 0, p, hp => h p hp
  | k + 1, p, hp => by
    have ih := wG_cong (a := a) (s := s) h k
    rw [wG, wG, tS_cong (a := a) (a' := a) (fun _ _ => ⟨rfl, rfl⟩) rfl ih]
    exact gT_cong ih p hp
def sfl (P : Nat → Bool) (v : Int32) (k : Nat) : Int32 := if fi P k = -1 then -1 else v
theorem sfl_m1 {P : Nat → Bool} {v : Int32} {k : Nat} (hv : ¬ v = -1) (h : sfl P v k = -1) : fi P k = -1 := by
  unfold sfl at h
  by_cases hf : fi P k = -1
  · exact hf
  · rw [if_neg hf] at h; exact absurd h hv
theorem sfl_no {P : Nat → Bool} {v : Int32} {k : Nat} (h : fi P k = -1) (hp : P k = false) : sfl P v (k + 1) = -1 := by unfold sfl; rw [fi_no h hp]; rfl
theorem sfl_yes {P : Nat → Bool} {v : Int32} {k : Nat} (hk : k < 2147483648) (h : fi P k = -1) (hp : P k = true) : sfl P v (k + 1) = v := by unfold sfl; rw [fi_yes h hp, if_neg (nI_m1 hk)]
theorem sfl_end {P : Nat → Bool} {v w : Int32} {k M : Nat} (hk : k ≤ M) (h : k = M ∨ ¬ sfl P w k = -1) : sfl P v M = sfl P v k := by
  rcases h with h | h
  · rw [h]
  · unfold sfl at *
    by_cases hf : fi P k = -1
    · rw [if_pos hf] at h; exact absurd rfl h
    · rw [fi_stay' hf hk]
theorem Q2_sfl {a : Nat → Int32} {p x n k : Nat} {v : Int32} : (if Q2 a p x n k then v else -1) = sfl (P2 a p x n k) v (10 * n) := by
  unfold Q2 sfl
  by_cases hf : fi (P2 a p x n k) (10 * n) = -1
  · simp [hf]
  · simp [hf]
theorem fc2_m1 {a : Nat → Int32} {p x n k : Nat} (h : fe2 a p x n k = -1) : fc2 a p x n k = -1 := by
  obtain ⟨hb, hf, hq⟩ := fe2_m1 h
  unfold fc2
  rw [if_neg hb, if_pos hf, hq]
theorem fc1_m1 {a : Nat → Int32} {p x n k : Nat} (h : fe1 a p x n k = -1) : fc1 a p x n k = -1 := by
  obtain ⟨hb, hf⟩ := fe1_m1 h
  unfold fc1
  rw [if_neg hb, hf]
