theorem RB_bn {g : Nat → Int32} {bn bn' : Nat → Nat} {n : Nat} (he : ∀ m, m < 7 → bn' m = bn m) (h : RB g bn n) : RB g bn' n := ⟨fun m hm => by rw [he m hm]; exact h.1 m hm, h.2⟩
theorem RH_undo {a ps : Nat → Int32} {n u v w : Nat} {kd pl bn dn dp nt : Nat → Nat} (h : RH a n u v (w + 1) kd pl bn dn dp nt ps) : ∃ pz : Nat → Nat, (∀ m, m < 14 → ps (w * 15 + m) = nI (pz m)) ∧ ps (w * 15 + 14) = a (68 + 15 * w + 14) ∧ RH (undF a w) n u v w kd (fun p => pz (7 + p)) pz dn dp nt ps := by
  obtain ⟨h0, h2, h3, h4, hu, hv, hw, hb, hk, hd, hn, hp⟩ := h
  obtain ⟨bz, pz, q1, q2, q3, q4⟩ := hp w (by omega)
  have hn7 := hb.2.2
  have ot : ∀ k, (k < 5 ∨ 19 ≤ k) → k ≠ 1 → k ≠ 4 → undF a w k = a k := fun k h1 h2 h3 => by
    unfold undF; rw [upd_n h2]; simp only [cpy]; rw [if_neg (by omega), upd_n h3]
  have inn : ∀ i, i < 14 → undF a w (5 + i) = a (68 + 15 * w + i) := fun i hi => by
    unfold undF; rw [upd_n (by omega)]; simp only [cpy]; rw [if_pos (by omega), upd_n (by omega), show 5 + i - 5 = i by omega]
  refine ⟨fun m => if m < 7 then bz m else pz (m - 7), fun m hm => ?_, q2, by rw [ot 0 (by omega) (by decide) (by decide)]; exact h0, by rw [ot 2 (by omega) (by decide) (by decide)]; exact h2, by rw [ot 3 (by omega) (by decide) (by decide)]; exact h3, ?_, hu, hv, by omega, RB_bn (bn := bz) (fun m hm => by rw [if_pos hm]) (RB_cong (fun p hp => (inn p (by omega)).symm) q3), fun p hp => ?_, RD_cong hu (fun k _ _ => ot k (by omega) (by omega) (by omega)) hd, RN_cong hv (fun k _ _ => ot k (by omega) (by omega) (by omega)) hn, RP_cong (fun k _ => ot k (by omega) (by omega) (by omega)) (fun j hj => hp j (by omega))⟩
  · show ps (w * 15 + m) = nI (if m < 7 then bz m else pz (m - 7))
    by_cases e : m < 7
    · rw [if_pos e]; exact (q1 m e).1
    · rw [if_neg e, ← (q1 (m - 7) (by omega)).2]; congr 1; omega
  · unfold undF; rw [upd_n (by decide)]; simp only [cpy]; rw [if_neg (by omega), upd_s]
  · obtain ⟨k1, k2, k3, k4⟩ := hk p hp
    obtain ⟨r1, r2⟩ := q4 p hp
    rw [ot (19 + p) (by omega) (by omega) (by omega), show 12 + p = 5 + (7 + p) by omega, inn (7 + p) (by omega), ← Nat.add_assoc, r1]
    show a (19 + p) = nI (kd p) ∧ nI (pz p) = nI (if 7 + p < 7 then bz (7 + p) else pz (7 + p - 7)) ∧ kd p < 6 ∧ (if 7 + p < 7 then bz (7 + p) else pz (7 + p - 7)) < 10
    rw [if_neg (show ¬ 7 + p < 7 by omega), show 7 + p - 7 = p by omega]
    exact ⟨k1, rfl, k3, r2⟩
theorem RH_hamlet {a ps : Nat → Int32} {kd pl dn dp nt : Nat → Nat} {dy : Int32} : RH (beg a dy) 0 0 0 0 kd pl (fun _ => 0) dn dp nt ps ∧ beg a dy 1 = dy := by
  have z : ∀ k, k < 68 → k ≠ 1 → beg a dy k = nI 0 := fun k h1 h2 => by
    unfold beg; rw [upd_n h2]; simp only [zr]; rw [if_pos h1]
  exact ⟨⟨z 0 (by decide) (by decide), z 2 (by decide) (by decide), z 3 (by decide) (by decide), z 4 (by decide) (by decide), by decide, by decide, by decide, ⟨fun m hm => rfl, fun p hp => absurd hp (Nat.not_lt_zero p), by decide⟩, fun p hp => absurd hp (Nat.not_lt_zero p), fun p hp => absurd hp (Nat.not_lt_zero p), fun p hp => absurd hp (Nat.not_lt_zero p), fun p hp => absurd hp (Nat.not_lt_zero p)⟩, by unfold beg; rw [upd_s]⟩
theorem RH_deed {a ps : Nat → Int32} {n u v w x c : Nat} {kd pl bn dn dp nt : Nat → Nat} (h : RH a n u v w kd pl bn dn dp nt ps) (hx : x < n) (hc : c ≤ 60) (hu6 : u < 6) : RH (ddF a x c u) n (u + 1) v w kd pl bn (un dn u x) (un dp u c) nt ps := by
  obtain ⟨h0, h2, h3, h4, hu, hv, hw, hb, hk, hd, hn, hp⟩ := h
  have hn7 := hb.2.2
  have ot : ∀ k, k ≠ 2 → k ≠ 26 + 2 * u → k ≠ 26 + 2 * u + 1 → ddF a x c u k = a k := fun k h1 h2 h3 => by
    unfold ddF; rw [upd_n h1, upd_n h3, upd_n h2]
  refine ⟨by rw [ot 0 (by omega) (by omega) (by omega)]; exact h0, by unfold ddF; rw [upd_s], by rw [ot 3 (by omega) (by omega) (by omega)]; exact h3, by rw [ot 4 (by omega) (by omega) (by omega)]; exact h4, by omega, hv, hw, RB_cong (fun p hp => (ot (5 + p) (by omega) (by omega) (by omega)).symm) hb, RKP_cong hn7 (fun k _ _ => ot k (by omega) (by omega) (by omega)) hk, fun k hk => ?_, RN_cong hv (fun k _ _ => ot k (by omega) (by omega) (by omega)) hn, RP_cong (fun k _ => ot k (by omega) (by omega) (by omega)) hp⟩
  by_cases e : k = u
  · subst e
    rw [un_s, un_s]
    unfold ddF
    rw [upd_n (by omega), upd_n (by omega), upd_s, upd_n (by omega), upd_s]
    exact ⟨rfl, rfl, by omega, hc⟩
  · rw [un_n e, un_n e, ot (26 + 2 * k) (by omega) (by omega) (by omega), ot (26 + 2 * k + 1) (by omega) (by omega) (by omega)]
    exact hd k (by omega)
