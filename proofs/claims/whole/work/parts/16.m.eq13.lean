theorem RH_same {a a' ps : Nat → Int32} {n u v w : Nat} {kd pl bn dn dp nt : Nat → Nat} (he : ∀ k, k < 188 → a' k = a k) (h : RH a n u v w kd pl bn dn dp nt ps) : RH a' n u v w kd pl bn dn dp nt ps := by
  obtain ⟨h0, h2, h3, h4, hu, hv, hw, hb, hk, hd, hn, hp⟩ := h
  have hn7 := hb.2.2
  exact ⟨by rw [he 0 (by decide)]; exact h0, by rw [he 2 (by decide)]; exact h2, by rw [he 3 (by decide)]; exact h3, by rw [he 4 (by decide)]; exact h4, hu, hv, hw, RB_cong (fun p hp => (he (5 + p) (by omega)).symm) hb, RKP_cong hn7 (fun k _ _ => he k (by omega)) hk, RD_cong hu (fun k _ _ => he k (by omega)) hd, RN_cong hv (fun k _ _ => he k (by omega)) hn, fun j hj => RPj_move (fun i hi => he _ (by omega)) (fun _ _ => rfl) (hp j hj)⟩
/-- the image i of the reference -/
def imR (k : Nat → Int32) (i : Nat) : Nat → Int32 := fun j => k (188 * i + j)
theorem imR_new {k a : Nat → Int32} {i j : Nat} (hj : j < 188) : imR (imK k a i 188) i j = a j := by
  unfold imR imK
  rw [if_pos (by omega), show 188 * i + j - 188 * i = j by omega]
theorem imR_old {k a : Nat → Int32} {i i' j : Nat} (hj : j < 188) (hi : i ≠ i') : imR (imK k a i 188) i' j = imR k i' j := by
  unfold imR imK
  rw [if_neg (by omega)]
theorem RH_image {k a ps : Nat → Int32} {n u v w i : Nat} {kd pl bn dn dp nt : Nat → Nat} (h : RH a n u v w kd pl bn dn dp nt ps) : RH (imR (imK k a i 188) i) n u v w kd pl bn dn dp nt ps := RH_same (fun _ hk => imR_new hk) h
theorem RH_keep {k a ps : Nat → Int32} {n u v w i i' : Nat} {kd pl bn dn dp nt : Nat → Nat} (hi : i ≠ i') (h : RH (imR k i') n u v w kd pl bn dn dp nt ps) : RH (imR (imK k a i 188) i') n u v w kd pl bn dn dp nt ps := RH_same (fun _ hk => imR_old hk hi) h
theorem RH_from {k a ps : Nat → Int32} {n u v w i : Nat} {kd pl bn dn dp nt : Nat → Nat} (h : RH (imR k i) n u v w kd pl bn dn dp nt ps) : RH (nw a (fun j => k (188 * i + j)) 188) n u v w kd pl bn dn dp nt ps := RH_same (fun q hq => by unfold nw; rw [if_pos hq]; rfl) h
