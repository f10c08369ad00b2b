/-! ===== class and reference: the whole relation ===== -/
def RH (a : Nat → Int32) (n u v w : Nat) (kd pl bn dn dp nt : Nat → Nat) (ps : Nat → Int32) : Prop := a 0 = nI n ∧ a 2 = nI u ∧ a 3 = nI v ∧ a 4 = nI w ∧ u ≤ 6 ∧ v ≤ 6 ∧ w ≤ 8 ∧ RB (N5 a) bn n ∧ RKP a kd pl n ∧ RD a dn dp u ∧ RN a nt v ∧ RP a ps n w
theorem RKP_cong {a a' : Nat → Int32} {kd pl : Nat → Nat} {n : Nat} (hn : n ≤ 7) (he : ∀ k, 12 ≤ k → k < 26 → a' k = a k) (h : RKP a kd pl n) : RKP a' kd pl n := fun p hp => by rw [he (19 + p) (by omega) (by omega), he (12 + p) (by omega) (by omega)]; exact h p hp
theorem RD_cong {a a' : Nat → Int32} {dn dp : Nat → Nat} {u : Nat} (hu : u ≤ 6) (he : ∀ k, 26 ≤ k → k < 38 → a' k = a k) (h : RD a dn dp u) : RD a' dn dp u := fun k hk => by rw [he (26 + 2 * k) (by omega) (by omega), he (26 + 2 * k + 1) (by omega) (by omega)]; exact h k hk
theorem RN_cong {a a' : Nat → Int32} {nt : Nat → Nat} {v : Nat} (hv : v ≤ 6) (he : ∀ k, 38 ≤ k → k < 68 → a' k = a k) (h : RN a nt v) : RN a' nt v := fun k hk => by rw [he (38 + 5 * k) (by omega) (by omega), he (38 + 5 * k + 1) (by omega) (by omega), he (38 + 5 * k + 2) (by omega) (by omega), he (38 + 5 * k + 3) (by omega) (by omega), he (38 + 5 * k + 4) (by omega) (by omega)]; exact h k hk
theorem RP_cong {a a' ps : Nat → Int32} {n w : Nat} (he : ∀ k, 68 ≤ k → a' k = a k) (h : RP a ps n w) : RP a' ps n w := fun j hj => RPj_move (fun i _ => he _ (by omega)) (fun _ _ => rfl) (h j hj)
theorem kpF4 {a : Nat → Int32} {w : Nat} (h4 : a 4 = nI w) (hw : w ≤ 8) : kpF a 4 = nI (if w = 8 then 8 else w + 1) := by
  have ht : tn (a 4) = w := by rw [h4, tn_nI (by omega)]
  unfold kpF
  rw [ht]
  by_cases e : w = 8
  · rw [if_pos e, if_pos e]; unfold kpG; rw [upd_s]
  · rw [if_neg e, if_neg e]; unfold kpG; rw [upd_s]
theorem RH_kp {a ps : Nat → Int32} {n u v w : Nat} {kd pl bn dn dp nt : Nat → Nat} (h : RH a n u v w kd pl bn dn dp nt ps) : RH (kpF a) n u v (if w = 8 then 8 else w + 1) kd pl bn dn dp nt (rmF bn pl (a 1) ps w) := by
  obtain ⟨h0, h2, h3, h4, hu, hv, hw, hb, hk, hd, hn, hp⟩ := h
  have hn7 := hb.2.2
  have lo : ∀ k, k < 68 → k ≠ 4 → kpF a k = a k := fun k h1 h2 => kpF_lo h1 h2
  exact ⟨by rw [lo 0 (by decide) (by decide)]; exact h0, by rw [lo 2 (by decide) (by decide)]; exact h2, by rw [lo 3 (by decide) (by decide)]; exact h3, kpF4 h4 hw, hu, hv, by split <;> omega, RB_cong (fun p hp => (lo (5 + p) (by omega) (by omega)).symm) hb, RKP_cong hn7 (fun k _ _ => lo k (by omega) (by omega)) hk, RD_cong hu (fun k _ _ => lo k (by omega) (by omega)) hd, RN_cong hv (fun k _ _ => lo k (by omega) (by omega)) hn, RP_kp hb hk hw h4 hp⟩
theorem RH_call {a ps : Nat → Int32} {n u v w x pp : Nat} {kd pl bn dn dp nt : Nat → Nat} (h : RH a n u v w kd pl bn dn dp nt ps) (hx : x < n) : RH (calF a (nI x) pp n) n u v (if w = 8 then 8 else w + 1) kd pl (stl bn x (HT kd pl bn (a 1) x pp n)) dn dp nt (rmF bn pl (a 1) ps w) := by
  have h' := RH_kp h
  obtain ⟨-, -, -, -, -, -, -, hb, hk, -, -, -⟩ := h
  obtain ⟨g0, g2, g3, g4, gu, gv, gw, gb, gk, gd, gn, gp⟩ := h'
  have hn7 := hb.2.2
  have ot : ∀ k, (k < 5 ∨ 12 ≤ k) → calF a (nI x) pp n k = kpF a k := fun k hk => by
    unfold calF nmd; rw [if_neg (by omega)]
  rw [RB_HT hb hk (by omega)]
  exact ⟨by rw [ot 0 (by omega)]; exact g0, by rw [ot 2 (by omega)]; exact g2, by rw [ot 3 (by omega)]; exact g3, by rw [ot 4 (by omega)]; exact g4, gu, gv, gw, RB_cong (fun p hp => by
    show _ = calF a (nI x) pp n (5 + p)
    unfold calF nmd; rw [if_pos (by omega), show 5 + p - 5 = p by omega]; rfl) (RB_stl hb hx tS_lt), RKP_cong hn7 (fun k _ _ => ot k (by omega)) gk, RD_cong gu (fun k _ _ => ot k (by omega)) gd, RN_cong gv (fun k _ _ => ot k (by omega)) gn, RP_cong (fun k _ => ot k (by omega)) gp⟩
theorem RH_goes {a ps : Nat → Int32} {n u v w x pp : Nat} {kd pl bn dn dp nt : Nat → Nat} (h : RH a n u v w kd pl bn dn dp nt ps) (hx : x < n) (hpp : pp < 10) : RH (upd (kpF a) (12 + x) (nI pp)) n u v (if w = 8 then 8 else w + 1) kd (un pl x pp) bn dn dp nt (rmF bn pl (a 1) ps w) := by
  obtain ⟨g0, g2, g3, g4, gu, gv, gw, gb, gk, gd, gn, gp⟩ := RH_kp h
  have hn7 := gb.2.2
  have ot : ∀ k, k ≠ 12 + x → upd (kpF a) (12 + x) (nI pp) k = kpF a k := fun k hk => upd_n hk
  refine ⟨by rw [ot 0 (by omega)]; exact g0, by rw [ot 2 (by omega)]; exact g2, by rw [ot 3 (by omega)]; exact g3, by rw [ot 4 (by omega)]; exact g4, gu, gv, gw, RB_cong (fun p hp => (ot (5 + p) (by omega)).symm) gb, fun p hp => ?_, RD_cong gu (fun k _ _ => ot k (by omega)) gd, RN_cong gv (fun k _ _ => ot k (by omega)) gn, RP_cong (fun k _ => ot k (by omega)) gp⟩
  obtain ⟨k1, k2, k3, k4⟩ := gk p hp
  rw [ot (19 + p) (by omega)]
  by_cases e : p = x
  · subst e; rw [upd_s, un_s]; exact ⟨k1, rfl, k3, hpp⟩
  · rw [ot (12 + p) (by omega), un_n e]; exact ⟨k1, k2, k3, k4⟩
theorem RH_day {a ps : Nat → Int32} {n u v w : Nat} {kd pl bn dn dp nt : Nat → Nat} {y : Int32} (h : RH a n u v w kd pl bn dn dp nt ps) : RH (upd (kpF a) 1 y) n u v (if w = 8 then 8 else w + 1) kd pl bn dn dp nt (rmF bn pl (a 1) ps w) := by
  obtain ⟨g0, g2, g3, g4, gu, gv, gw, gb, gk, gd, gn, gp⟩ := RH_kp h
  have hn7 := gb.2.2
  have ot : ∀ k, k ≠ 1 → upd (kpF a) 1 y k = kpF a k := fun k hk => upd_n hk
  exact ⟨by rw [ot 0 (by omega)]; exact g0, by rw [ot 2 (by omega)]; exact g2, by rw [ot 3 (by omega)]; exact g3, by rw [ot 4 (by omega)]; exact g4, gu, gv, gw, RB_cong (fun p hp => (ot (5 + p) (by omega)).symm) gb, RKP_cong hn7 (fun k _ _ => ot k (by omega)) gk, RD_cong gu (fun k _ _ => ot k (by omega)) gd, RN_cong gv (fun k _ _ => ot k (by omega)) gn, RP_cong (fun k _ => ot k (by omega)) gp⟩
