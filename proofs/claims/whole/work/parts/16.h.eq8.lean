/-! ===== class and reference: the past ===== -/
theorem RB_cong {g g' : Nat → Int32} {bn : Nat → Nat} {n : Nat} (he : ∀ p, p < n → g p = g' p) (h : RB g bn n) : RB g' bn n := ⟨fun m hm => by rw [h.1 m hm]; exact bs_cong (fun p hp => by rw [he p hp]), fun p hp => by rw [← he p hp]; exact h.2.1 p hp, h.2.2⟩
def RPj (a ps : Nat → Int32) (n j : Nat) : Prop := ∃ bz pz : Nat → Nat, (∀ m, m < 7 → ps (j * 15 + m) = nI (bz m) ∧ ps (j * 15 + 7 + m) = nI (pz m)) ∧ ps (j * 15 + 14) = a (68 + 15 * j + 14) ∧ RB (fun p => a (68 + 15 * j + p)) bz n ∧ ∀ p, p < n → a (68 + 15 * j + 7 + p) = nI (pz p) ∧ pz p < 10
def RP (a ps : Nat → Int32) (n w : Nat) : Prop := ∀ j, j < w → RPj a ps n j
theorem RPj_move {a a' ps ps' : Nat → Int32} {n j j' : Nat} (ha : ∀ i, i < 15 → a' (68 + 15 * j' + i) = a (68 + 15 * j + i)) (hs : ∀ i, i < 15 → ps' (j' * 15 + i) = ps (j * 15 + i)) (h : RPj a ps n j) : RPj a' ps' n j' := by
  obtain ⟨bz, pz, h1, h2, h3, h4⟩ := h
  have hn := h3.2.2
  refine ⟨bz, pz, fun m hm => ⟨by rw [hs m (by omega)]; exact (h1 m hm).1, ?_⟩, by rw [hs 14 (by decide), ha 14 (by decide)]; exact h2, RB_cong (fun p hp => (ha p (by omega)).symm) h3, fun p hp => ?_⟩
  · rw [Nat.add_assoc, hs (7 + m) (by omega), ← Nat.add_assoc]; exact (h1 m hm).2
  · rw [Nat.add_assoc, ha (7 + p) (by omega), ← Nat.add_assoc]; exact h4 p hp
theorem kpG_old {a : Nat → Int32} {u k : Nat} (h : k < 68 + 15 * u) (h4 : k ≠ 4) : kpG a u k = a k := by
  unfold kpG
  rw [upd_n h4, upd_n (by omega)]
  simp only [cpy]
  rw [if_neg (by omega)]
theorem kpG_new {a : Nat → Int32} {u i : Nat} (h : i < 14) : kpG a u (68 + 15 * u + i) = a (5 + i) := by
  unfold kpG
  rw [upd_n (by omega), upd_n (by omega)]
  simp only [cpy]
  rw [if_pos (by omega), show 68 + 15 * u + i - (68 + 15 * u) = i by omega]
theorem kpG_day {a : Nat → Int32} {u : Nat} : kpG a u (68 + 15 * u + 14) = a 1 := by
  unfold kpG
  rw [upd_n (by omega), upd_s]
theorem rmG_old {bn pl : Nat → Nat} {da : Int32} {ps : Nat → Int32} {u k : Nat} (h : k < u * 15) : rmG bn pl da ps u k = ps k := by
  unfold rmG
  rw [upd_n (by omega), pk_cpy_out (by omega), pk_cpy_out (by omega)]
theorem rmG_b {bn pl : Nat → Nat} {da : Int32} {ps : Nat → Int32} {u m : Nat} (h : m < 7) : rmG bn pl da ps u (u * 15 + m) = nI (bn m) := by
  unfold rmG
  rw [upd_n (by omega), pk_cpy_out (by omega), pk_cpy_in (by omega) (by omega), show 0 + (u * 15 + m - u * 15) = m by omega]; rfl
theorem rmG_p {bn pl : Nat → Nat} {da : Int32} {ps : Nat → Int32} {u m : Nat} (h : m < 7) : rmG bn pl da ps u (u * 15 + 7 + m) = nI (pl m) := by
  unfold rmG
  rw [upd_n (by omega), pk_cpy_in (by omega) (by omega), show 0 + (u * 15 + 7 + m - (u * 15 + 7)) = m by omega]; rfl
theorem rmG_d {bn pl : Nat → Nat} {da : Int32} {ps : Nat → Int32} {u : Nat} : rmG bn pl da ps u (u * 15 + 14) = da := by
  unfold rmG
  rw [upd_s]
theorem RPj_new {a ps : Nat → Int32} {bn kd pl : Nat → Nat} {n u : Nat} (h : RB (N5 a) bn n) (hk : RKP a kd pl n) : RPj (kpG a u) (rmG bn pl (a 1) ps u) n u := by
  have hn := h.2.2
  refine ⟨bn, pl, fun m hm => ⟨rmG_b hm, rmG_p hm⟩, by rw [rmG_d, kpG_day], RB_cong (fun p hp => (kpG_new (by omega)).symm) h, fun p hp => ?_⟩
  obtain ⟨h1, h2, h3, h4⟩ := hk p hp
  rw [Nat.add_assoc, kpG_new (by omega), show 5 + (7 + p) = 12 + p by omega]
  exact ⟨h2, h4⟩
theorem RP_kp {a ps : Nat → Int32} {bn kd pl : Nat → Nat} {n u : Nat} (h : RB (N5 a) bn n) (hk : RKP a kd pl n) (hu : u ≤ 8) (h4 : a 4 = nI u) (hp : RP a ps n u) : RP (kpF a) (rmF bn pl (a 1) ps u) n (if u = 8 then 8 else u + 1) := by
  have ht : tn (a 4) = u := by rw [h4, tn_nI (by omega)]
  intro j hj
  unfold kpF rmF
  by_cases e : u = 8
  · rw [if_pos e] at hj ⊢
    rw [if_pos (by rw [ht]; exact e)]
    have hn := h.2.2
    have lo : ∀ k, k < 68 → k ≠ 4 → upd (cpy a 83 68 105) 4 (nI 7) k = a k := fun k hk h4 => by
      rw [upd_n h4]; simp only [cpy]; rw [if_neg (by omega)]
    have hi : ∀ k, 68 ≤ k → k < 173 → upd (cpy a 83 68 105) 4 (nI 7) k = a (k + 15) := fun k hk h4 => by
      rw [upd_n (by omega)]; simp only [cpy]; rw [if_pos (by omega)]; congr 1; omega
    by_cases e7 : j = 7
    · subst e7
      have hz := RPj_new (a := upd (cpy a 83 68 105) 4 (nI 7)) (ps := va_cpy ps ps 15 0 (7 * 15)) (u := 7) (RB_cong (g' := N5 (upd (cpy a 83 68 105) 4 (nI 7))) (fun p hp => (lo (5 + p) (by omega) (by omega)).symm) h) (show RKP _ kd pl n from fun p hp => by rw [lo (19 + p) (by omega) (by omega), lo (12 + p) (by omega) (by omega)]; exact hk p hp)
      rw [lo 1 (by decide) (by decide)] at hz
      exact hz
    · refine RPj_move (a := a) (ps := ps) (j := j + 1) (fun i hi' => ?_) (fun i hi' => ?_) (hp (j + 1) (by omega))
      · rw [kpG_old (by omega) (by omega), hi _ (by omega) (by omega)]; congr 1; omega
      · rw [rmG_old (by omega), pk_cpy_in (by omega) (by omega)]; congr 1; omega
  · rw [if_neg e] at hj ⊢
    rw [if_neg (by rw [ht]; exact e), ht]
    by_cases ej : j = u
    · rw [ej]; exact RPj_new h hk
    · refine RPj_move (a := a) (ps := ps) (j := j) (fun i hi' => ?_) (fun i hi' => ?_) (hp j (by omega))
      · rw [kpG_old (by omega) (by omega)]
      · rw [rmG_old (by omega)]
