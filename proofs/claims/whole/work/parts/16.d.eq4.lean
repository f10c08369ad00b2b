/-! ===== class and reference: next, ring ===== -/
theorem ct_diff {s y : Nat → Bool} : ∀ {m : Nat}, (∀ k, k < m → y k = true → s k = true) → ct (fun i => s i && !y i) m + ct y m = ct s m
  | 0, _ => rfl
  | m + 1, h => by
    have h1 := ct_diff (s := s) (y := y) (m := m) (fun k hk => h k (by omega))
    have h2 := h m (by omega)
    rw [ct, ct, ct]
    cases hy : y m
    · cases hs : s m <;> simp <;> omega
    · rw [h2 hy]; simp; omega
theorem RN_nx {a : Nat → Int32} {nt kd pl : Nat → Nat} {p v n x : Nat} (hn : n ≤ 7) (hp : p < n) (h : RN a nt v) (hk : RKP a kd pl n) : nxM nt kd (a 1) p v x = nxG a p v x ∧ nxM nt kd (a 1) p v x ≤ 10 := by
  obtain ⟨k1, k2, k3, k4⟩ := hk p hp
  have hS := plC_lt nt kd p v
  have hY : plC nt kd p v &&& ptC kd (a 1) p x < 1024 := Nat.lt_of_le_of_lt Nat.and_le_left hS
  have eY : ct (plC nt kd p v &&& ptC kd (a 1) p x).testBit 31 = ct (nxY a p v x) 10 := by
    rw [ct_tb (n := 10) hY (by decide)]
    refine ct_cong (fun q hq => ?_)
    rw [Nat.testBit_and, ptC, bs_tb, decide_eq_true hq, Bool.true_and, nxY, k1, tn_nI (by omega), RN_pl hn hp h hk]
  have eS : ct (plC nt kd p v).testBit 31 = ct (plC nt kd p v).testBit 10 := ct_tb (n := 10) hS (by decide)
  have eZ : ct (andn (plC nt kd p v) (plC nt kd p v &&& ptC kd (a 1) p x)).testBit 31 + ct (plC nt kd p v &&& ptC kd (a 1) p x).testBit 31 = ct (plC nt kd p v).testBit 31 := by
    rw [← ct_diff (s := (plC nt kd p v).testBit) (y := (plC nt kd p v &&& ptC kd (a 1) p x).testBit) (m := 31) (fun k _ q => by rw [Nat.testBit_and] at q; exact (Bool.and_eq_true_iff.mp q).1)]
    congr 1
    exact ct_cong (fun k hk => andn_tb hk)
  have l1 := ct_le (plC nt kd p v).testBit 10
  have l2 := ct_le (nxY a p v x) 10
  unfold nxM nxG
  rw [← RN_pl hn hp h hk, ← eY]
  constructor
  · split <;> split <;> omega
  · split <;> omega
theorem RN_next {a : Nat → Int32} {nt kd pl : Nat → Nat} {p v n : Nat} (hn : n ≤ 7) (hp : p < n) (h : RN a nt v) (hk : RKP a kd pl n) : ∀ k, nxC nt kd (a 1) p v (k + 1) = nxF a p v (k + 1)
  | 0 => by
    have e := RN_nx (x := 0) hn hp h hk
    rw [nxC, nxF, nxC, nxF, if_pos (show _ < 11 by omega), e.1, if_pos (show nxG a p v 0 < 1000000 by omega)]
  | k + 1 => by
    have e := RN_nx (x := k + 1) hn hp h hk
    rw [nxC, nxF, RN_next hn hp h hk k, e.1]
def itF (a : Nat → Int32) : Nat → Nat → Nat
  | 0, q => q
  | i + 1, q => tn (a (5 + itF a i q))
theorem itF_s (a : Nat → Int32) : ∀ (i q : Nat), itF a (i + 1) q = itF a i (tn (a (5 + q)))
  | 0, _ => rfl
  | i + 1, q => by rw [itF, itF_s a i q, itF]
theorem itF_e {a : Nat → Int32} {x y q : Nat} (h : itF a x q = itF a y q) : ∀ d, itF a (x + d) q = itF a (y + d) q
  | 0 => h
  | d + 1 => by rw [← Nat.add_assoc, ← Nat.add_assoc, itF, itF, itF_e h d]
def rgP (a : Nat → Int32) (p q i : Nat) : Prop := a (5 + itF a i q) = nI p ∧ ∀ j, j < i → ¬ a (5 + itF a j q) = nI p ∧ ¬ a (5 + itF a j q) = -1
theorem rgF_A {a : Nat → Int32} {p : Nat} (hp : p < 7) : ∀ (f q k : Nat), rgF a p f q k ≠ 0 → ∃ i, i < f ∧ rgF a p f q k = k + i ∧ rgP a p q i
  | 0, q, k, h => absurd rfl h
  | f + 1, q, k, h => by
    rw [rgF] at h ⊢
    by_cases e1 : a (5 + q) = -1
    · rw [if_pos e1] at h; exact absurd rfl h
    · rw [if_neg e1] at h ⊢
      by_cases e2 : a (5 + q) = nI p
      · rw [if_pos e2]; exact ⟨0, by omega, rfl, e2, fun j hj => absurd hj (Nat.not_lt_zero j)⟩
      · rw [if_neg e2] at h ⊢
        obtain ⟨i, h1, h2, h3, h4⟩ := rgF_A hp f _ _ h
        refine ⟨i + 1, by omega, by rw [h2]; omega, by rw [itF_s]; exact h3, fun j hj => ?_⟩
        match j, hj with
        | 0, _ => exact ⟨e2, e1⟩
        | j + 1, hj => rw [itF_s]; exact h4 j (by omega)
theorem rgF_B {a : Nat → Int32} {p : Nat} (hp : p < 7) : ∀ (f q k i : Nat), i < f → rgP a p q i → rgF a p f q k = k + i
  | 0, _, _, i, h, _ => absurd h (Nat.not_lt_zero i)
  | f + 1, q, k, 0, _, h => by
    have h1 : a (5 + q) = nI p := h.1
    rw [rgF, if_neg (by rw [h1]; exact nI_m1 (by omega)), if_pos h1]; rfl
  | f + 1, q, k, i + 1, hl, h => by
    have h0 : ¬ a (5 + q) = nI p ∧ ¬ a (5 + q) = -1 := h.2 0 (by omega)
    rw [rgF, if_neg h0.2, if_neg h0.1, rgF_B hp f _ (k + 1) i (by omega) ⟨by rw [← itF_s]; exact h.1, fun j hj => by rw [← itF_s]; exact h.2 (j + 1) (by omega)⟩]
    omega
theorem rgP_n {a : Nat → Int32} {n p i : Nat} (hg : gOk (N5 a) n) (hn : n ≤ 7) (hp : p < n) (h : rgP a p p i) : i < n := by
  have hb : ∀ j, j ≤ i → itF a j p < n := by
    intro j
    induction j with
    | zero => intro _; exact hp
    | succ j ih =>
      intro hj
      rcases hg _ (ih (by omega)) with e | ⟨m, hm, e⟩
      · exact absurd e (h.2 j (by omega)).2
      · rw [itF, show a (5 + itF a j p) = nI m from e, tn_nI (by omega)]; exact hm
  have := fb_holes n (i + 1) (fun j => itF a j p) (fun j hj => hb j (by omega)) (fun x y hxy hy e => by
    have e2 := itF_e (d := i - y) e
    rw [show y + (i - y) = i by omega] at e2
    have e3 := (h.2 (x + (i - y)) (by omega)).1
    rw [e2] at e3
    exact e3 h.1)
  omega
theorem rgF_7 {a : Nat → Int32} {n p : Nat} (hg : gOk (N5 a) n) (hn : n ≤ 7) (hp : p < n) : rgF a p n p 1 = rgF a p 7 p 1 := by
  by_cases e : rgF a p 7 p 1 = 0
  · by_cases e2 : rgF a p n p 1 = 0
    · rw [e, e2]
    · obtain ⟨i, h1, h2, h3⟩ := rgF_A (by omega) _ _ _ e2
      rw [h2, rgF_B (by omega) 7 p 1 i (by omega) h3]
  · obtain ⟨i, h1, h2, h3⟩ := rgF_A (by omega) _ _ _ e
    rw [h2, rgF_B (by omega) n p 1 i (rgP_n hg hn hp h3) h3]
theorem rgC_F {a : Nat → Int32} {bn : Nat → Nat} {n p : Nat} (h : RB (N5 a) bn n) (hp : p < 7) : ∀ (f q k : Nat), q < n → rgC bn n p f q k = rgF a p f q k
  | 0, _, _, _ => rfl
  | f + 1, q, k, hq => by
    have hn := h.2.2
    rw [rgC, rgF, RB_nm h hq, show N5 a q = a (5 + q) from rfl]
    rcases h.2.1 q hq with e | ⟨m, hm, e⟩
    · have e' : a (5 + q) = -1 := e
      rw [e', if_neg (fun z => nI_m1 (k := p) (by omega) z.symm), if_pos rfl, if_pos rfl]
    · have e' : a (5 + q) = nI m := e
      rw [e', if_neg (nI_m1 (by omega)), if_neg (nI_m1 (by omega)), tn_nI (by omega), rgC_F h hp f m (k + 1) hm]
theorem RB_ring {a : Nat → Int32} {bn : Nat → Nat} {n p : Nat} (h : RB (N5 a) bn n) (hp : p < n) : rgC bn n p n p 1 = rgF a p 7 p 1 := by
  have hn := h.2.2
  rw [rgC_F h (by omega) n p 1 hp, rgF_7 h.2.1 hn hp]
