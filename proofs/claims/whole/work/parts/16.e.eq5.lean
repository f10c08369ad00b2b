/-! ===== class and reference: count, digest ===== -/
theorem cn_eq {a : Nat → Int32} {bn : Nat → Nat} {n wh : Nat} {bl : Int32} (h : RB (N5 a) bn n) : cnC (a 1) (a 0) (a 2) (a 3) (a 4) bn bl wh = cnF a n bl wh := by
  unfold cnC cnF
  rw [RB_ow h]
theorem dc_eq {a : Nat → Int32} {bn : Nat → Nat} {n : Nat} {bl : Int32} (h : RB (N5 a) bn n) : ∀ k, dc1 (a 1) (a 0) (a 2) (a 3) (a 4) bn bl k = dg1 a n bl k
  | 0 => rfl
  | k + 1 => by rw [dc1, dg1, dc_eq h k, cn_eq h]
theorem mx1_eq {a : Nat → Int32} {kd pl bn : Nat → Nat} {n : Nat} {s : Int64} (h : RB (N5 a) bn n) (hk : RKP a kd pl n) : ∀ k, k ≤ n → mx1 kd pl bn n s k = dg2 a s k
  | 0, _ => rfl
  | k + 1, hl => by
    obtain ⟨h1, h2, h3, h4⟩ := hk k (by omega)
    rw [mx1, dg2, mx1_eq h hk k (by omega), ← h1, ← h2, show fi (fun m => (bn m).testBit k) n = a (5 + k) from RB_nm h (by omega)]
theorem mx2_eq {a : Nat → Int32} {dn dp : Nat → Nat} {s : Int64} : ∀ {u : Nat}, RD a dn dp u → mx2 dn dp s u = smF a s 26 (2 * u)
  | 0, _ => rfl
  | u + 1, h => by
    obtain ⟨h1, h2, h3, h4⟩ := h u (by omega)
    rw [mx2, mx2_eq (fun k hk => h k (by omega)), ← h1, ← h2, show 2 * (u + 1) = 2 * u + 1 + 1 by omega, smF, smF, Nat.add_assoc 26]
theorem RN_at {a : Nat → Int32} {nt : Nat → Nat} {v : Nat} (h : RN a nt v) {j : Nat} (hj : j < v * 5) : a (38 + j) = nI (nt j) := by
  obtain ⟨h0, h1, h2, h3, h4, -⟩ := h (j / 5) (by omega)
  rcases (show j = j / 5 * 5 ∨ j = j / 5 * 5 + 1 ∨ j = j / 5 * 5 + 2 ∨ j = j / 5 * 5 + 3 ∨ j = j / 5 * 5 + 4 by omega) with e | e | e | e | e
  · rw [← e] at h0; rw [← h0]; congr 1; omega
  · rw [← e] at h1; rw [← h1]; congr 1; omega
  · rw [← e] at h2; rw [← h2]; congr 1; omega
  · rw [← e] at h3; rw [← h3]; congr 1; omega
  · rw [← e] at h4; rw [← h4]; congr 1; omega
theorem mx3_eq {a : Nat → Int32} {nt : Nat → Nat} {s : Int64} {v : Nat} (h : RN a nt v) : ∀ k, k ≤ v * 5 → mx3 nt s k = smF a s 38 k
  | 0, _ => rfl
  | k + 1, hl => by rw [mx3, smF, mx3_eq h k (by omega), RN_at h (by omega)]
theorem dg_eq {a : Nat → Int32} {kd pl bn dn dp nt : Nat → Nat} {n u v : Nat} {bl : Int32} {ab be : Int64} (h : RB (N5 a) bn n) (hk : RKP a kd pl n) (hd : RD a dn dp u) (hv : RN a nt v) (h0 : a 0 = nI n) (h2 : a 2 = nI u) (h3 : a 3 = nI v) : dgC kd pl bn dn dp nt (a 1) (a 4) n u v bl ab be = dgF a n u v bl ab be := by
  unfold dgC dgF
  rw [← h0, ← h2, ← h3, dc_eq h, mx1_eq h hk n (Nat.le_refl _), mx2_eq hd, mx3_eq hv _ (Nat.le_refl _), Nat.mul_comm v 5]
