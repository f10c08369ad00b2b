/-! ===== class and reference: read ===== -/
theorem pI_w {T : Nat → Nat} {L i n : Nat} (w : Nat → Int32) : (pI T L i w n).1 = (pI T L i zz n).1 ∧ (pI T L i w n).2.1 = (pI T L i zz n).2.1 := by
  unfold pI pO pR pZ
  (repeat' split) <;> exact ⟨rfl, rfl⟩
theorem RB_gvN {g : Nat → Int32} {bn : Nat → Nat} {n p : Nat} (h : RB g bn n) (hp : p < n) : RB (upd g p (-1)) (gvN bn p n) n := by
  have hn := h.2.2
  refine ⟨fun m hm => ?_, fun q hq => ?_, hn⟩
  · apply Nat.eq_of_testBit_eq
    intro q
    rw [bo, bs_tb]
    by_cases hq : q < n
    · rw [decide_eq_true hq, Bool.true_and]
      have hb : (bn m).testBit q = decide (g q = nI m) := by rw [RB_tb h hm, decide_eq_true hq, Bool.true_and]
      by_cases e : q = p
      · subst e
        rw [upd_s, decide_eq_false (fun z => nI_m1 (k := m) (by omega) z.symm)]
        unfold gvN
        by_cases hmn : m < n
        · rw [if_pos hmn, andn_tb (by omega), Nat.testBit_two_pow_self]; simp
        · rw [if_neg hmn, hb]
          refine decide_eq_false (fun z => ?_)
          rcases h.2.1 q hq with e | ⟨k, hk, e⟩
          · rw [e] at z; exact nI_m1 (k := m) (by omega) z.symm
          · rw [e] at z; have := (nJ (by omega) (by omega)).mp z; omega
      · rw [upd_n e]
        unfold gvN
        by_cases hmn : m < n
        · rw [if_pos hmn, andn_tb (by omega), Nat.testBit_two_pow, decide_eq_false (fun z => e z.symm), hb]; simp
        · rw [if_neg hmn, hb]
    · rw [decide_eq_false hq, Bool.false_and]
      have hb : (bn m).testBit q = false := by rw [RB_tb h hm, decide_eq_false hq, Bool.false_and]
      unfold gvN
      by_cases hmn : m < n
      · rw [if_pos hmn, andn, bs_tb, hb]; simp
      · rw [if_neg hmn, hb]
  · by_cases e : q = p
    · subst e; rw [upd_s]; exact Or.inl rfl
    · rw [upd_n e]; exact h.2.1 q hq
theorem RB_gvY {g : Nat → Int32} {bn : Nat → Nat} {n p x : Nat} (h : RB g bn n) (hp : p < n) (hx : x < n) : RB (upd g p (nI x)) (gvY bn p x n) n := by
  have hn := h.2.2
  have h1 := RB_gvN h hp
  refine ⟨fun m hm => ?_, fun q hq => ?_, hn⟩
  · apply Nat.eq_of_testBit_eq
    intro q
    rw [bo, bs_tb]
    have hb : (gvN bn p n m).testBit q = (decide (q < n) && decide (upd g p (-1) q = nI m)) := RB_tb h1 hm
    unfold gvY
    by_cases em : m = x
    · subst em
      rw [un_s, Nat.testBit_or, hb, Nat.testBit_two_pow]
      by_cases e : q = p
      · subst e; rw [upd_s, upd_s, decide_eq_true hp]; simp
      · rw [upd_n e, upd_n e, decide_eq_false (show ¬ p = q from fun z => e z.symm)]; simp
    · rw [un_n em, hb]
      by_cases e : q = p
      · subst e; rw [upd_s, upd_s, decide_eq_false (show ¬ (-1 : Int32) = nI m from fun z => nI_m1 (k := m) (by omega) z.symm), decide_eq_false (show ¬ nI x = nI m from fun z => em ((nJ (by omega) (by omega)).mp z).symm)]
      · rw [upd_n e, upd_n e]
  · by_cases e : q = p
    · subst e; rw [upd_s]; exact Or.inr ⟨x, hx, rfl⟩
    · rw [upd_n e]; exact h.2.1 q hq
theorem N5_upd (w : Nat → Int32) (p : Nat) (v : Int32) : N5 (upd w (5 + p) v) = upd (N5 w) p v := by
  funext q
  unfold N5
  by_cases e : q = p
  · subst e; rw [upd_s, upd_s]
  · rw [upd_n e, upd_n (by omega)]
def RI (w : Nat → Int32) (dy : Int32) (s : Cs) : Prop := w 0 = nI s.2.2.2 ∧ w 1 = dy ∧ w 2 = nI 0 ∧ w 3 = nI 0 ∧ w 4 = nI 0 ∧ RB (N5 w) s.2.2.1 s.2.2.2 ∧ RKP w s.1 s.2.1 s.2.2.2
theorem RI_upd {w : Nat → Int32} {dy : Int32} {kd pl bn bn' : Nat → Nat} {n p : Nat} {v : Int32} (h : RI w dy (kd, pl, bn, n)) (hp : p < n) (hb : RB (upd (N5 w) p v) bn' n) : RI (upd w (5 + p) v) dy (kd, pl, bn', n) := by
  obtain ⟨h0, h1, h2, h3, h4, h5, h6⟩ := h
  have hn := hb.2.2
  exact ⟨by rw [upd_n (by omega)]; exact h0, by rw [upd_n (by omega)]; exact h1, by rw [upd_n (by omega)]; exact h2, by rw [upd_n (by omega)]; exact h3, by rw [upd_n (by omega)]; exact h4, by rw [N5_upd]; exact hb, RKP_cong hn (fun k _ _ => upd_n (by omega)) h6⟩
theorem RI_one {w : Nat → Int32} {dy : Int32} {kd pl bn : Nat → Nat} {n k0 p0 : Nat} (h : RI w dy (kd, pl, bn, n)) (hn : n < 7) (hk0 : k0 < 6) (hp0 : p0 < 10) : RI (layF w k0 p0 n) dy (un kd n k0, un pl n p0, un bn n (2 ^ n), n + 1) := by
  obtain ⟨h0, h1, h2, h3, h4, hb, hk⟩ := h
  have ot : ∀ k, k ≠ 0 → k ≠ 5 + n → k ≠ 12 + n → k ≠ 19 + n → layF w k0 p0 n k = w k := fun k h1 h3 h4 h5 => by
    unfold layF; rw [upd_n h1, upd_n h5, upd_n h4, upd_n h3]
  refine ⟨by unfold layF; rw [upd_s], by rw [ot 1 (by omega) (by omega) (by omega) (by omega)]; exact h1, by rw [ot 2 (by omega) (by omega) (by omega) (by omega)]; exact h2, by rw [ot 3 (by omega) (by omega) (by omega) (by omega)]; exact h3, by rw [ot 4 (by omega) (by omega) (by omega) (by omega)]; exact h4, RB_one hb hn (fun p hp => ot (5 + p) (by omega) (by omega) (by omega) (by omega)) ?_, fun p hp => ?_⟩
  · show layF w k0 p0 n (5 + n) = nI n
    unfold layF; rw [upd_n (by omega), upd_n (by omega), upd_n (by omega), upd_s]
  · have hp' : p < n + 1 := hp
    show layF w k0 p0 n (19 + p) = nI (un kd n k0 p) ∧ layF w k0 p0 n (12 + p) = nI (un pl n p0 p) ∧ un kd n k0 p < 6 ∧ un pl n p0 p < 10
    by_cases e : p = n
    · subst e
      rw [un_s, un_s]; unfold layF
      rw [upd_n (by omega), upd_s, upd_n (by omega), upd_n (by omega), upd_s]
      exact ⟨rfl, rfl, hk0, hp0⟩
    · rw [un_n e, un_n e, ot (19 + p) (by omega) (by omega) (by omega) (by omega), ot (12 + p) (by omega) (by omega) (by omega) (by omega)]
      exact hk p (show p < n by omega)
theorem RI_up {T : Nat → Nat} {L i : Nat} {w : Nat → Int32} {dy : Int32} {s : Cs} (h : RI w dy s) (hp : (pI T L i zz s.2.2.2).1 = true) : RI (pI T L i w s.2.2.2).2.2 dy (cup T L i s) := by
  obtain ⟨kd, pl, bn, n⟩ := s
  have hn := h.2.2.2.2.2.1.2.2
  simp only [cup] at *
  unfold pI at hp ⊢
  unfold ciK ciL ciB ciN
  by_cases q : isOnW T L i = true
  · rw [if_pos q] at hp
    obtain ⟨-, q1, q2, q3⟩ := pO_1 hp
    simp only [if_pos q, if_pos hp]
    unfold pO
    rw [if_neg q1, if_neg (by rw [q2]; decide), if_neg (by rw [q3]; decide)]
    exact RI_one h (by omega) (nmO_K q2).2 (nmO_K q3).2
  · rw [if_neg q] at hp
    simp only [if_neg q]
    by_cases q2 : isBea T L i = true
    · rw [if_pos q2] at hp
      obtain ⟨-, e1, e2⟩ := pR_1 hp
      simp only [if_pos q2, if_pos hp]
      unfold pR
      rw [if_neg (by rw [e1]; decide), if_neg (by rw [e2]; decide)]
      exact RI_upd h (nmO_K e1).2 (RB_gvY h.2.2.2.2.2.1 (nmO_K e1).2 (nmO_K e2).2)
    · rw [if_neg q2] at hp
      simp only [if_neg q2]
      by_cases q3 : isNon T L i = true
      · rw [if_pos q3] at hp
        obtain ⟨-, e1⟩ := pZ_1 hp
        simp only [if_pos q3, if_pos hp]
        unfold pZ
        rw [if_neg (by rw [e1]; decide)]
        exact RI_upd h (nmO_K e1).2 (RB_gvN h.2.2.2.2.2.1 (nmO_K e1).2)
      · rw [if_neg q3] at hp; cases hp
theorem gL_pL {T : Nat → Nat} {L : Nat} {dy : Int32} : ∀ (f i : Nat) (w : Nat → Int32) (s : Cs) (m : Nat), RI w dy s → (pL T L f i w m).1 = (gL cnn (cup T L) T L f i s m).1 ∧ (pL T L f i w m).2.1 = (gL cnn (cup T L) T L f i s m).2.1 ∧ ((pL T L f i w m).1 = true → RI (pL T L f i w m).2.2 dy (gL cnn (cup T L) T L f i s m).2.2)
  | 0, i, w, s, m, h => ⟨rfl, rfl, fun q => by cases q⟩
  | f + 1, i, w, s, m, h => by
    have hn := h.2.2.2.2.2.1.2.2
    have h0 : tn (w 0) = s.2.2.2 := by rw [h.1, tn_nI (by omega)]
    rw [pL, gL]
    show _
    rw [h0]
    unfold cnn
    obtain ⟨e1, e2⟩ := pI_w (T := T) (L := L) (i := i) (n := s.2.2.2) w
    rw [e1, e2]
    by_cases q0 : tK T L i = 0
    · rw [if_pos q0, if_pos q0]; exact ⟨rfl, rfl, fun _ => h⟩
    · rw [if_neg q0, if_neg q0]
      by_cases q1 : (pI T L i zz s.2.2.2).1 = false
      · rw [if_pos q1, if_pos q1]; exact ⟨rfl, rfl, fun q => by cases q⟩
      · rw [if_neg q1, if_neg q1]
        by_cases q2 : tK T L (pI T L i zz s.2.2.2).2.1 = 3
        · rw [if_pos q2, if_pos q2]
          exact gL_pL f _ _ _ _ (RI_up h (by simpa using q1))
        · rw [if_neg q2, if_neg q2]; exact ⟨rfl, rfl, fun q => by cases q⟩
theorem RI_0 {kd pl : Nat → Nat} {dy : Int32} : RI (beg zz dy) dy (kd, pl, fun _ => 0, 0) := by
  have hz : ∀ k, k ≠ 1 → k < 68 → beg zz dy k = nI 0 := fun k h1 h2 => by
    unfold beg; rw [upd_n h1]; unfold zr; rw [if_pos h2]
  exact ⟨hz 0 (by decide) (by decide), by unfold beg; rw [upd_s], hz 2 (by decide) (by decide), hz 3 (by decide) (by decide), hz 4 (by decide) (by decide), ⟨fun m hm => rfl, fun p hp => absurd hp (Nat.not_lt_zero p), Nat.zero_le 7⟩, fun p hp => absurd hp (Nat.not_lt_zero p)⟩
theorem rdC_rdP (T : Nat → Nat) (L : Nat) (kd pl : Nat → Nat) : (rdP T L).1 = (rdC T L kd pl).1 ∧ (rdP T L).2.1 = (rdC T L kd pl).2.1 ∧ ((rdC T L kd pl).1 = true → RI (rdP T L).2.2 (nI (tV T L (tE T L 0))) (rdC T L kd pl).2.2) := by
  unfold rdP rdC
  by_cases h : (hmP T L 0 zz).1 = true
  · rw [if_pos h, if_pos h]
    have e : (hmP T L 0 zz).2.2 = beg zz (nI (tV T L (tE T L 0))) := by
      unfold hmP at h ⊢
      split at h
      · cases h
      · split at h
        · cases h
        · rename_i h1 h2
          rw [if_neg h1, if_neg h2]
    obtain ⟨g1, g2, g3⟩ := gL_pL (T := T) (L := L) (dy := nI (tV T L (tE T L 0))) (L + 1) (tE T L (hmP T L 0 zz).2.1) (hmP T L 0 zz).2.2 (kd, pl, fun _ => 0, 0) 1 (by rw [e]; exact RI_0)
    exact ⟨g1, g2, fun q => g3 (by rw [g1]; exact q)⟩
  · rw [if_neg h, if_neg h]; exact ⟨rfl, rfl, fun q => by cases q⟩
theorem rdR_C (T : Nat → Nat) (L : Nat) (kd pl : Nat → Nat) : rdR T L = if (rdC T L kd pl).1 = true then nI (rdC T L kd pl).2.1 else (-10) - nI (rdC T L kd pl).2.1 := by
  obtain ⟨h1, h2, -⟩ := rdC_rdP T L kd pl
  unfold rdR; rw [h1, h2]
theorem RH_read {T : Nat → Nat} {L : Nat} {kd pl dn dp nt : Nat → Nat} {a ps : Nat → Int32} (h : (rdC T L kd pl).1 = true) : RH (rdN T L a) (rdC T L kd pl).2.2.2.2.2 0 0 0 (rdC T L kd pl).2.2.1 (rdC T L kd pl).2.2.2.1 (rdC T L kd pl).2.2.2.2.1 dn dp nt ps ∧ rdN T L a 1 = nI (tV T L (tE T L 0)) := by
  obtain ⟨h1, h2, h3⟩ := rdC_rdP T L kd pl
  obtain ⟨g0, g1, g2, g3, g4, gb, gk⟩ := h3 h
  have hn := gb.2.2
  have lo : ∀ k, k < 68 → rdN T L a k = (rdP T L).2.2 k := fun k hk => by
    unfold rdN; rw [if_pos (by rw [h1]; exact h)]; unfold nw; rw [if_pos hk]
  exact ⟨⟨by rw [lo 0 (by decide)]; exact g0, by rw [lo 2 (by decide)]; exact g2, by rw [lo 3 (by decide)]; exact g3, by rw [lo 4 (by decide)]; exact g4, by decide, by decide, by decide, RB_cong (fun p hp => (lo (5 + p) (by omega)).symm) gb, RKP_cong hn (fun k _ _ => lo k (by omega)) gk, fun k hk => absurd hk (Nat.not_lt_zero k), fun k hk => absurd hk (Nat.not_lt_zero k), fun k hk => absurd hk (Nat.not_lt_zero k)⟩, by rw [lo 1 (by decide)]; exact g1⟩
theorem rdN_no {T : Nat → Nat} {L : Nat} {kd pl : Nat → Nat} {a : Nat → Int32} (h : (rdC T L kd pl).1 = false) : rdN T L a = a := by
  obtain ⟨h1, -, -⟩ := rdC_rdP T L kd pl
  unfold rdN; rw [if_neg (by rw [h1, h]; decide)]
