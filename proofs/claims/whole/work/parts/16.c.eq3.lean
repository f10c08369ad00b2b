/-! ===== class and reference: calls, deeds, names, ears, notes ===== -/
theorem RB_calls {a : Nat → Int32} {kd pl bn ao at1 an : Nat → Nat} {n p x : Nat} (h : RB (N5 a) bn n) (hk : RKP a kd pl n) (hp : p < n) (hx : x < n) : tbW (hL kd pl (a 1) true false n ao 10) (hL kd pl (a 1) false false n at1 10) (hL kd pl (a 1) false true n an 10) bn p x n = fe2 a p x n (10 * n) ∧ tbT (hL kd pl (a 1) true false n ao 10) (hL kd pl (a 1) false false n at1 10) (hL kd pl (a 1) false true n an 10) bn p x n = fc2 a p x n (10 * n) := by
  have hn := h.2.2
  unfold tbW tbT fe2 fc2
  rw [RB_nm h hp]
  by_cases e : N5 a p = nI x
  · rw [if_pos e, if_pos e, if_pos e, if_pos e]; exact ⟨rfl, rfl⟩
  · rw [if_neg e, if_neg e, if_neg e, if_neg e, RB_lc h hk hp hx e, show (fun c => decide (cl a (N5 a) c n p = nI x)) = P1 a p x n from rfl]
    by_cases e1 : fi (P1 a p x n) (10 * n) = -1
    · rw [if_pos e1, if_pos e1, if_pos e1, if_pos e1]
      have hq : fi (qC (hL kd pl (a 1) true false n ao 10) (hL kd pl (a 1) false false n at1 10) (hL kd pl (a 1) false true n an 10) bn p x) (10 * n) = fi (Q2 a p x n) (10 * n) := fi_cong (fun c hc => by
        have hz := fi_none e1 (by omega) c hc
        have hne : ¬ cl a (N5 a) c n p = nI x := of_decide_eq_false hz
        unfold qC Q2
        rw [RB_lc (RB_cO h hk hc) hk hp hx hne]; rfl)
      rw [hq]; exact ⟨rfl, rfl⟩
    · rw [if_neg e1, if_neg e1, if_neg e1, if_neg e1]; exact ⟨rfl, rfl⟩
def RD (a : Nat → Int32) (dn dp : Nat → Nat) (u : Nat) : Prop := ∀ k, k < u → a (26 + 2 * k) = nI (dn k) ∧ a (26 + 2 * k + 1) = nI (dp k) ∧ dn k < 7 ∧ dp k ≤ 60
theorem RD_pC {a : Nat → Int32} {dn dp : Nat → Nat} {x : Nat} (hx : x < 7) : ∀ {u : Nat}, RD a dn dp u → pC dn dp x u = pN a (nI x) u
  | 0, _ => rfl
  | u + 1, h => by
    obtain ⟨h1, h2, h3, h4⟩ := h u (by omega)
    rw [pC, pN, RD_pC hx (fun k hk => h k (by omega)), h1, h2, tn_nI (by omega)]
    by_cases e : dn u = x
    · rw [if_pos e, if_pos (by rw [e])]
    · rw [if_neg e, if_neg (fun q => e ((nJ (by omega) (by omega)).mp q))]
theorem RD_up {a : Nat → Int32} {bn dn dp : Nat → Nat} {n u : Nat} (h : RB (N5 a) bn n) (hd : RD a dn dp u) : ∀ k, k ≤ n → upC bn dn dp u k = unF a n u k
  | 0, _ => rfl
  | k + 1, hk => by
    have hn := h.2.2
    rw [upC, unF, RD_up h hd k (by omega), h.1 k (by omega), RD_pC (by omega) hd]; rfl
theorem RB_names {a : Nat → Int32} {bn : Nat → Nat} {n wh : Nat} (h : RB (N5 a) bn n) : bs (nmC bn wh) n = bs (nmB a wh n) n := bs_cong (fun m hm => by
  have hn := h.2.2
  unfold nmC nmB BO
  rw [h.1 m (by omega)]; rfl)
theorem stp_mask {T w p1 p2 : Nat} (hw : w < 4) : andn (andn T (w % 2 * 2 ^ p1)) (w / 2 * 2 ^ p2) = andn T (stp w p1 p2) := by
  apply Nat.eq_of_testBit_eq
  intro i
  by_cases hi : i < 31
  · rw [andn_tb hi, andn_tb hi, andn_tb hi]
    unfold stp
    match w, hw with
    | 0, _ => simp
    | 1, _ => simp [show Nat.testBit 1 1 = false by decide]
    | 2, _ => simp [show Nat.testBit 2 1 = true by decide]
    | 3, _ => simp [Nat.testBit_or, Bool.and_assoc, show Nat.testBit 3 1 = true by decide]
  · simp only [andn, bs_tb, decide_eq_false hi, Bool.false_and]
theorem RB_eb {a : Nat → Int32} {kd pl bn : Nat → Nat} {n p1 p2 x pp w : Nat} (h : RB (N5 a) bn n) (hk : RKP a kd pl n) (hx : x < n) (hw : w < 4) : ebC kd pl bn (a 1) x pp n p1 p2 w = eb a p1 p2 x pp n w := by
  have hn := h.2.2
  have hl : andn (TS a (nI x) pp n) (stp w p1 p2) < 2 ^ n := Nat.lt_pow_two_of_testBit _ (fun i hi => by
    have : (TS a (nI x) pp n).testBit i = false := Nat.testBit_lt_two_pow (Nat.lt_of_lt_of_le tS_lt (Nat.pow_le_pow_right (n := 2) (by decide) hi))
    rw [andn, bs_tb, this]; simp)
  unfold ebC eb
  rw [stp_mask hw, ← (RB_stl h hx hl).1 x (by omega), show HT kd pl bn (a 1) x pp n = TS a (nI x) pp n from RB_HT h hk (by omega)]
  unfold stl
  by_cases e : andn (TS a (nI x) pp n) (stp w p1 p2) = 0
  · rw [if_pos e, if_pos e]
  · rw [if_neg e, if_neg e, un_s]
theorem RB_ears {a : Nat → Int32} {kd pl bn : Nat → Nat} {n p1 p2 x pp : Nat} (h : RB (N5 a) bn n) (hk : RKP a kd pl n) (hx : x < n) : bs (eBC kd pl bn (a 1) x pp n p1 p2) 4 = bs (eB a p1 p2 x pp n) 4 := bs_cong (fun w hw => by
  unfold eBC eB
  rw [RB_eb h hk hx hw, RB_eb h hk hx (xor_lt4 hw (by decide)), RB_eb h hk hx (xor_lt4 hw (by decide))])
def RN (a : Nat → Int32) (nt : Nat → Nat) (v : Nat) : Prop := ∀ k, k < v → a (38 + 5 * k) = nI (nt (k * 5)) ∧ a (38 + 5 * k + 1) = nI (nt (k * 5 + 1)) ∧ a (38 + 5 * k + 2) = nI (nt (k * 5 + 2)) ∧ a (38 + 5 * k + 3) = nI (nt (k * 5 + 3)) ∧ a (38 + 5 * k + 4) = nI (nt (k * 5 + 4)) ∧ nt (k * 5) < 7 ∧ nt (k * 5 + 1) < 10 ∧ nt (k * 5 + 2) < 100 ∧ nt (k * 5 + 3) < 2 ∧ nt (k * 5 + 4) < 2
theorem dJ {a b : Nat} (ha : a < 2147483648) (hb : b < 2147483648) : decide (nI a = nI b) = decide (a = b) := by
  by_cases e : a = b
  · rw [e]; simp
  · rw [decide_eq_false e, decide_eq_false (fun q => e ((nJ ha hb).mp q))]
theorem RN_ar {a : Nat → Int32} {nt : Nat → Nat} {p kd pl : Nat} (hp : p < 7) : ∀ {v : Nat}, RN a nt v → arC nt p kd pl v = arS a p kd pl v
  | 0, _ => rfl
  | v + 1, h => by
    obtain ⟨h0, h1, h2, h3, h4, b0, b1, b2, b3, b4⟩ := h v (by omega)
    rw [arC, arS, RN_ar hp (fun k hk => h k (by omega)), arN, h0, h1, h2, h3, h4, tn_nI (by omega), dJ (by omega) (by decide), dJ (by omega) (by decide)]
    have e : decide (¬ nI (nt (v * 5)) = nI p) = decide (¬ nt (v * 5) = p) := by
      rw [decide_not, decide_not, dJ (by omega) (by omega)]
    rw [e]
theorem RN_is {a : Nat → Int32} {nt kd pl : Nat → Nat} {p v n : Nat} (hn : n ≤ 7) (hp : p < n) (h : RN a nt v) (hk : RKP a kd pl n) : isC nt pl p v = isS a p v := by
  obtain ⟨h1, h2, h3, h4⟩ := hk p hp
  unfold isC isS
  rw [h2, tn_nI (by omega)]
  exact bs_cong (fun k hk => RN_ar (by omega) h)
theorem RN_pl {a : Nat → Int32} {nt kd pl : Nat → Nat} {p v n : Nat} (hn : n ≤ 7) (hp : p < n) (h : RN a nt v) (hk : RKP a kd pl n) : plC nt kd p v = plS a p v := by
  obtain ⟨h1, h2, h3, h4⟩ := hk p hp
  unfold plC plS
  rw [h1, tn_nI (by omega)]
  exact bs_cong (fun k hk => RN_ar (by omega) h)
