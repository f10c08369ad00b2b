theorem RH_note {a ps : Nat → Int32} {n u v w p x d b t : Nat} {kd pl bn dn dp nt : Nat → Nat} (h : RH a n u v w kd pl bn dn dp nt ps) (hv6 : v < 6) (hp' : p < n) (hx : x < 10) (hd' : d < 100) (hb' : b < 2) (ht : t < 2) : RH (ntF a p x d b t v) n u (v + 1) w kd pl bn dn dp (wrN nt p x d b t v) ps := by
  obtain ⟨h0, h2, h3, h4, hu, hv, hw, hb, hk, hd, hn, hp⟩ := h
  have hn7 := hb.2.2
  have ot : ∀ k, k ≠ 3 → (k < 38 + 5 * v ∨ 38 + 5 * v + 5 ≤ k) → ntF a p x d b t v k = a k := fun k h1 h2 => by
    unfold ntF; rw [upd_n h1, upd_n (by omega), upd_n (by omega), upd_n (by omega), upd_n (by omega), upd_n (by omega)]
  have wo : ∀ k, k < v * 5 → wrN nt p x d b t v k = nt k := fun k h1 => by
    unfold wrN; rw [un_n (by omega), un_n (by omega), un_n (by omega), un_n (by omega), un_n (by omega)]
  refine ⟨by rw [ot 0 (by omega) (by omega)]; exact h0, by rw [ot 2 (by omega) (by omega)]; exact h2, by unfold ntF; rw [upd_s], by rw [ot 4 (by omega) (by omega)]; exact h4, hu, by omega, hw, RB_cong (fun p hp => (ot (5 + p) (by omega) (by omega)).symm) hb, RKP_cong hn7 (fun k _ _ => ot k (by omega) (by omega)) hk, RD_cong hu (fun k _ _ => ot k (by omega) (by omega)) hd, fun k hk => ?_, RP_cong (fun k _ => ot k (by omega) (by omega)) hp⟩
  by_cases e : k = v
  · subst e
    have r0 : wrN nt p x d b t k (k * 5) = p := by unfold wrN; rw [un_n (by omega), un_n (by omega), un_n (by omega), un_n (by omega), un_s]
    have r1 : wrN nt p x d b t k (k * 5 + 1) = x := by unfold wrN; rw [un_n (by omega), un_n (by omega), un_n (by omega), un_s]
    have r2 : wrN nt p x d b t k (k * 5 + 2) = d := by unfold wrN; rw [un_n (by omega), un_n (by omega), un_s]
    have r3 : wrN nt p x d b t k (k * 5 + 3) = b := by unfold wrN; rw [un_n (by omega), un_s]
    have r4 : wrN nt p x d b t k (k * 5 + 4) = t := by unfold wrN; rw [un_s]
    rw [r0, r1, r2, r3, r4]
    refine ⟨?_, ?_, ?_, ?_, ?_, by omega, hx, hd', hb', ht⟩
    · unfold ntF; rw [upd_n (by omega), upd_n (by omega), upd_n (by omega), upd_n (by omega), upd_n (by omega), upd_s]
    · unfold ntF; rw [upd_n (by omega), upd_n (by omega), upd_n (by omega), upd_n (by omega), upd_s]
    · unfold ntF; rw [upd_n (by omega), upd_n (by omega), upd_n (by omega), upd_s]
    · unfold ntF; rw [upd_n (by omega), upd_n (by omega), upd_s]
    · unfold ntF; rw [upd_n (by omega), upd_s]
  · rw [wo (k * 5) (by omega), wo (k * 5 + 1) (by omega), wo (k * 5 + 2) (by omega), wo (k * 5 + 3) (by omega), wo (k * 5 + 4) (by omega), ot (38 + 5 * k) (by omega) (by omega), ot (38 + 5 * k + 1) (by omega) (by omega), ot (38 + 5 * k + 2) (by omega) (by omega), ot (38 + 5 * k + 3) (by omega) (by omega), ot (38 + 5 * k + 4) (by omega) (by omega)]
    exact hn k (by omega)
