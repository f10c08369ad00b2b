theorem RH_forget0 {a ps : Nat → Int32} {n u v w : Nat} {kd pl bn dn dp nt : Nat → Nat} (h : RH a n u v w kd pl bn dn dp nt ps) : RH (upd a 2 (nI 0)) n 0 v w kd pl bn dn dp nt ps := by
  obtain ⟨h0, h2, h3, h4, hu, hv, hw, hb, hk, hd, hn, hp⟩ := h
  have hn7 := hb.2.2
  have ot : ∀ k, k ≠ 2 → upd a 2 (nI 0) k = a k := fun k hk => upd_n hk
  exact ⟨by rw [ot 0 (by omega)]; exact h0, upd_s _ _ _, by rw [ot 3 (by omega)]; exact h3, by rw [ot 4 (by omega)]; exact h4, by omega, hv, hw, RB_cong (fun p hp => (ot (5 + p) (by omega)).symm) hb, RKP_cong hn7 (fun k _ _ => ot k (by omega)) hk, fun k hk => absurd hk (Nat.not_lt_zero k), RN_cong hv (fun k _ _ => ot k (by omega)) hn, RP_cong (fun k _ => ot k (by omega)) hp⟩
theorem RH_forget1 {a ps : Nat → Int32} {n u v w : Nat} {kd pl bn dn dp nt : Nat → Nat} (h : RH a n u v w kd pl bn dn dp nt ps) : RH (upd a 3 (nI 0)) n u 0 w kd pl bn dn dp nt ps := by
  obtain ⟨h0, h2, h3, h4, hu, hv, hw, hb, hk, hd, hn, hp⟩ := h
  have hn7 := hb.2.2
  have ot : ∀ k, k ≠ 3 → upd a 3 (nI 0) k = a k := fun k hk => upd_n hk
  exact ⟨by rw [ot 0 (by omega)]; exact h0, by rw [ot 2 (by omega)]; exact h2, upd_s _ _ _, by rw [ot 4 (by omega)]; exact h4, hu, by omega, hw, RB_cong (fun p hp => (ot (5 + p) (by omega)).symm) hb, RKP_cong hn7 (fun k _ _ => ot k (by omega)) hk, RD_cong hu (fun k _ _ => ot k (by omega)) hd, fun k hk => absurd hk (Nat.not_lt_zero k), RP_cong (fun k _ => ot k (by omega)) hp⟩
theorem RB_one {g g' : Nat → Int32} {bn : Nat → Nat} {n : Nat} (h : RB g bn n) (hn : n < 7) (h1 : ∀ p, p < n → g' p = g p) (h2 : g' n = nI n) : RB g' (un bn n (2 ^ n)) (n + 1) := by
  refine ⟨fun m hm => ?_, fun p hp => ?_, by omega⟩
  · apply Nat.eq_of_testBit_eq
    intro p
    rw [bo, bs_tb]
    by_cases ep : p = n
    · rw [ep, h2, decide_eq_true (show n < n + 1 by omega), Bool.true_and, dJ (by omega) (by omega)]
      by_cases em : m = n
      · rw [em, un_s, Nat.testBit_two_pow_self, decide_eq_true rfl]
      · rw [un_n em, RB_tb h hm, decide_eq_false (Nat.lt_irrefl n), Bool.false_and]
        exact (decide_eq_false (fun q => em q.symm)).symm
    · by_cases hp : p < n
      · rw [h1 p hp, decide_eq_true (show p < n + 1 by omega), Bool.true_and]
        by_cases em : m = n
        · rw [em, un_s, Nat.testBit_two_pow, decide_eq_false (show ¬ n = p by omega)]
          refine (decide_eq_false (fun q => ?_)).symm
          rcases h.2.1 p hp with e | ⟨k, hk, e⟩
          · rw [e] at q; exact nI_m1 (k := n) (by omega) q.symm
          · rw [e] at q; have := (nJ (by omega) (by omega)).mp q; omega
        · rw [un_n em, RB_tb h hm, decide_eq_true hp, Bool.true_and]
      · rw [decide_eq_false (show ¬ p < n + 1 by omega), Bool.false_and]
        by_cases em : m = n
        · rw [em, un_s, Nat.testBit_two_pow, decide_eq_false (show ¬ n = p by omega)]
        · rw [un_n em, RB_tb h hm, decide_eq_false hp, Bool.false_and]
  · by_cases ep : p = n
    · exact Or.inr ⟨n, by omega, by rw [ep]; exact h2⟩
    · rw [h1 p (by omega)]
      rcases h.2.1 p (by omega) with e | ⟨k, hk, e⟩
      · exact Or.inl e
      · exact Or.inr ⟨k, by omega, e⟩
theorem RH_one {a ps : Nat → Int32} {n u v w k0 p0 : Nat} {kd pl bn dn dp nt : Nat → Nat} (h : RH a n u v w kd pl bn dn dp nt ps) (hn : n < 7) (hk0 : k0 < 6) (hp0 : p0 < 10) : RH (upd (layF a k0 p0 n) 4 (nI 0)) (n + 1) u v 0 (un kd n k0) (un pl n p0) (un bn n (2 ^ n)) dn dp nt ps := by
  obtain ⟨h0, h2, h3, h4, hu, hv, hw, hb, hk, hd, hnn, hp⟩ := h
  have ot : ∀ k, k ≠ 0 → k ≠ 4 → k ≠ 5 + n → k ≠ 12 + n → k ≠ 19 + n → upd (layF a k0 p0 n) 4 (nI 0) k = a k := fun k h1 h2 h3 h4 h5 => by
    rw [upd_n h2]; unfold layF; rw [upd_n h1, upd_n h5, upd_n h4, upd_n h3]
  refine ⟨by rw [upd_n (by decide)]; unfold layF; rw [upd_s], by rw [ot 2 (by omega) (by omega) (by omega) (by omega) (by omega)]; exact h2, by rw [ot 3 (by omega) (by omega) (by omega) (by omega) (by omega)]; exact h3, upd_s _ _ _, hu, hv, by omega, RB_one hb hn (fun p hp => ot (5 + p) (by omega) (by omega) (by omega) (by omega) (by omega)) ?_, fun p hp => ?_, RD_cong hu (fun k _ _ => ot k (by omega) (by omega) (by omega) (by omega) (by omega)) hd, RN_cong hv (fun k _ _ => ot k (by omega) (by omega) (by omega) (by omega) (by omega)) hnn, fun j hj => absurd hj (Nat.not_lt_zero j)⟩
  · show upd (layF a k0 p0 n) 4 (nI 0) (5 + n) = nI n
    rw [upd_n (by omega)]; unfold layF; rw [upd_n (by omega), upd_n (by omega), upd_n (by omega), upd_s]
  · by_cases e : p = n
    · subst e
      rw [un_s, un_s, upd_n (by omega), upd_n (by omega)]; unfold layF
      rw [upd_n (by omega), upd_s, upd_n (by omega), upd_n (by omega), upd_s]
      exact ⟨rfl, rfl, hk0, hp0⟩
    · rw [un_n e, un_n e, ot (19 + p) (by omega) (by omega) (by omega) (by omega) (by omega), ot (12 + p) (by omega) (by omega) (by omega) (by omega) (by omega)]
      exact hk p (by omega)
