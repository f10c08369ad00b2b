/-! ===== class and reference: names and bearers ===== -/
theorem nJ {a b : Nat} (ha : a < 2147483648) (hb : b < 2147483648) : nI a = nI b ↔ a = b := ⟨fun h => by have := congrArg tn h; rwa [tn_nI ha, tn_nI hb] at this, fun h => by rw [h]⟩
def gOk (g : Nat → Int32) (n : Nat) : Prop := ∀ p, p < n → g p = -1 ∨ ∃ m, m < n ∧ g p = nI m
def RB (g : Nat → Int32) (bn : Nat → Nat) (n : Nat) : Prop := (∀ m, m < 7 → bn m = bo g (nI m) n) ∧ gOk g n ∧ n ≤ 7
theorem RB_tb {g : Nat → Int32} {bn : Nat → Nat} {n m p : Nat} (h : RB g bn n) (hm : m < 7) : (bn m).testBit p = (decide (p < n) && decide (g p = nI m)) := by rw [h.1 m hm, bo, bs_tb]
theorem RB_lt {g : Nat → Int32} {bn : Nat → Nat} {n : Nat} (h : RB g bn n) : ∀ m, m < 7 → bn m < 2 ^ n := fun m hm => by rw [h.1 m hm]; exact bs_lt _ n
theorem RB_128 {g : Nat → Int32} {bn : Nat → Nat} {n : Nat} (h : RB g bn n) : ∀ m, m < 7 → bn m < 128 := fun m hm => by rw [h.1 m hm]; exact bs_lt' _ (m := 7) h.2.2
theorem RB_31 {g : Nat → Int32} {bn : Nat → Nat} {n : Nat} (h : RB g bn n) : ∀ m, m < 7 → bn m < 2147483648 := fun m hm => Nat.lt_trans (RB_128 h m hm) (by decide)
theorem fi_none {P : Nat → Bool} : ∀ {n : Nat}, fi P n = -1 → n < 2147483648 → ∀ m, m < n → P m = false
  | 0, _, _, m, hm => absurd hm (Nat.not_lt_zero m)
  | n + 1, h, hn, m, hm => by
    rw [fi] at h
    by_cases e : fi P n = -1
    · rw [if_pos e] at h
      by_cases q : P n = true
      · rw [if_pos q] at h; exact absurd h (nI_m1 (by omega))
      · by_cases e2 : m = n
        · rw [e2]; simpa using q
        · exact fi_none e (by omega) m (by omega)
    · rw [if_neg e] at h; exact absurd h e
theorem fi_all {P : Nat → Bool} : ∀ {n : Nat}, (∀ m, m < n → P m = false) → fi P n = -1
  | 0, _ => rfl
  | n + 1, h => fi_no (fi_all (fun m hm => h m (by omega))) (h n (by omega))
theorem RB_nm {g : Nat → Int32} {bn : Nat → Nat} {n p : Nat} (h : RB g bn n) (hp : p < n) : nmF bn n p = g p := by
  rcases nmF_in (bn := bn) (p := p) n with q | ⟨m, h1, h2, h3⟩
  · rw [q]
    rcases h.2.1 p hp with e | ⟨m, hm, e⟩
    · exact e.symm
    · have := fi_none q (by have := h.2.2; omega) m hm
      rw [RB_tb h (by have := h.2.2; omega), decide_eq_true hp, decide_eq_true e] at this
      cases this
  · rw [RB_tb h (by have := h.2.2; omega), decide_eq_true hp] at h3
    have h4 : g p = nI m := by simpa using h3
    rw [h2, h4]
def RKP (a : Nat → Int32) (kd pl : Nat → Nat) (n : Nat) : Prop := ∀ p, p < n → a (19 + p) = nI (kd p) ∧ a (12 + p) = nI (pl p) ∧ kd p < 6 ∧ pl p < 10
theorem RB_HT {a g : Nat → Int32} {kd pl bn : Nat → Nat} {n x pp : Nat} (h : RB g bn n) (hk : RKP a kd pl n) (hx : x < 7) : HT kd pl bn (a 1) x pp n = tS a g (nI x) pp n := by
  unfold HT tS
  refine bs_cong (fun p hp => ?_)
  obtain ⟨h1, h2, h3, h4⟩ := hk p hp
  rw [tB, h1, h2, tn_nI (by omega), tn_nI (by omega), RB_tb h hx, decide_eq_true hp, Bool.true_and, h.1 x hx]
theorem gT_ok {g : Nat → Int32} {n x t : Nat} (h : gOk g n) (hx : x < n) : gOk (gT g (nI x) t n) n := by
  unfold gT
  by_cases h0 : t = 0
  · rw [if_pos h0]; exact h
  · rw [if_neg h0]
    intro p hp
    simp only [gt, if_pos hp]
    by_cases h1 : t.testBit p = true
    · rw [if_pos h1]; exact Or.inr ⟨x, hx, rfl⟩
    · rw [if_neg h1]
      by_cases h2 : g p = nI x
      · rw [if_pos h2]; exact Or.inl rfl
      · rw [if_neg h2]; exact h p hp
theorem RB_stl {g : Nat → Int32} {bn : Nat → Nat} {n x t : Nat} (h : RB g bn n) (hx : x < n) (ht : t < 2 ^ n) : RB (gT g (nI x) t n) (stl bn x t) n := by
  refine ⟨fun m hm => ?_, gT_ok h.2.1 hx, h.2.2⟩
  have hn7 := h.2.2
  unfold stl gT
  by_cases h0 : t = 0
  · rw [if_pos h0, if_pos h0]; exact h.1 m hm
  · rw [if_neg h0, if_neg h0]
    apply Nat.eq_of_testBit_eq
    intro p
    rw [bo, bs_tb]
    by_cases hp : p < n
    · rw [decide_eq_true hp, Bool.true_and]
      simp only [gt, if_pos hp]
      by_cases e : m = x
      · rw [e, un_s]
        cases h1 : t.testBit p
        · rw [if_neg (by decide)]
          by_cases h2 : g p = nI x
          · rw [if_pos h2]; exact (decide_eq_false (fun q => nI_m1 (k := x) (by omega) q.symm)).symm
          · rw [if_neg h2]; exact (decide_eq_false h2).symm
        · rw [if_pos rfl]; exact (decide_eq_true rfl).symm
      · rw [un_n e, if_pos hm, andn_tb (by omega), RB_tb h hm, decide_eq_true hp, Bool.true_and]
        have hne : ¬ nI x = nI m := fun q => e ((nJ (by omega) (by omega)).mp q).symm
        cases h1 : t.testBit p
        · rw [if_neg (by decide)]
          by_cases h2 : g p = nI x
          · rw [if_pos h2, decide_eq_false (fun q => hne (h2.symm.trans q)), decide_eq_false (fun q => nI_m1 (k := m) (by omega) q.symm)]; rfl
          · rw [if_neg h2]; simp
        · rw [if_pos rfl, decide_eq_false hne]; simp
    · rw [decide_eq_false hp, Bool.false_and]
      have hz : ∀ y, y < 2 ^ n → y.testBit p = false := fun y hy => Nat.testBit_lt_two_pow (Nat.lt_of_lt_of_le hy (Nat.pow_le_pow_right (n := 2) (by decide) (by omega)))
      by_cases e : m = x
      · rw [e, un_s]; exact hz t ht
      · rw [un_n e, if_pos hm, andn, bs_tb, hz _ (RB_lt h m hm)]; simp
theorem RB_ow {g : Nat → Int32} {bn : Nat → Nat} {n : Nat} (h : RB g bn n) : ct (owS bn).testBit 31 = ow g n := by
  unfold owS ow
  rw [ct_bs _ (by decide)]
  have hn7 := h.2.2
  have e := ct_out (p := fun p => (bn p).testBit p) (n := n) (7 - n) (fun k h1 h2 => by rw [RB_tb h (by omega), decide_eq_false (by omega)]; rfl)
  rw [show n + (7 - n) = 7 by omega] at e
  rw [e]
  exact ct_cong (fun k hk => by rw [RB_tb h (by omega), decide_eq_true hk, Bool.true_and])
theorem tS_lt {a g : Nat → Int32} {x : Int32} {pp n : Nat} : tS a g x pp n < 2 ^ n := bs_lt _ n
/-- what the hearing holds behind listen -/
theorem RB_htr {a g : Nat → Int32} {kd pl bn ao at1 an : Nat → Nat} {n x pp : Nat} (h : RB g bn n) (hk : RKP a kd pl n) (hx : x < 7) (hp : pp < 10) : htr (hL kd pl (a 1) true false n ao 10) (hL kd pl (a 1) false false n at1 10) (hL kd pl (a 1) false true n an 10) bn x pp = tS a g (nI x) pp n := by
  rw [HT_eq h.2.2 (RB_lt h x hx) (by rw [hL, if_pos hp]) (by rw [hL, if_pos hp]) (by rw [hL, if_pos hp]), RB_HT h hk hx]
theorem RB_cO {a g : Nat → Int32} {kd pl bn ao at1 an : Nat → Nat} {n c : Nat} (h : RB g bn n) (hk : RKP a kd pl n) (hc : c < 10 * n) : RB (cl a g c n) (cO (hL kd pl (a 1) true false n ao 10) (hL kd pl (a 1) false false n at1 10) (hL kd pl (a 1) false true n an 10) bn c) n := by
  have hn := h.2.2
  unfold cO cl
  rw [RB_htr h hk (by omega) (Nat.mod_lt _ (by decide))]
  exact RB_stl h (by omega) tS_lt
theorem RB_wB {a g : Nat → Int32} {kd pl bn ao at1 an : Nat → Nat} {n s : Nat} (h : RB g bn n) (hk : RKP a kd pl n) (hn : 0 < n) : ∀ w, RB (wG a g n s w) (wB (hL kd pl (a 1) true false n ao 10) (hL kd pl (a 1) false false n at1 10) (hL kd pl (a 1) false true n an 10) bn n s w) n
  | 0 => h
  | w + 1 => by
    have ih := RB_wB (s := s) (ao := ao) (at1 := at1) (an := an) h hk hn w
    have hx := Nat.mod_lt (wX s (w + 1) / 65536) hn
    have hn7 := h.2.2
    rw [wG, wB, RB_htr ih hk (by omega) (Nat.mod_lt _ (by decide))]
    exact RB_stl ih hx tS_lt
