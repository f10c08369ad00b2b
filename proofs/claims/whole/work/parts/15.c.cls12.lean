def ebC (kd pl bn : Nat → Nat) (da : Int32) (x pp n p1 p2 w : Nat) : Nat := if andn (HT kd pl bn da x pp n) (stp w p1 p2) = 0 then bn x else andn (HT kd pl bn da x pp n) (stp w p1 p2)
def eBC (kd pl bn : Nat → Nat) (da : Int32) (x pp n p1 p2 : Nat) : Nat → Bool := fun w => ((ebC kd pl bn da x pp n p1 p2 w).testBit p1 || !(ebC kd pl bn da x pp n p1 p2 (w ^^^ 1)).testBit p1) && ((ebC kd pl bn da x pp n p1 p2 w).testBit p2 || !(ebC kd pl bn da x pp n p1 p2 (w ^^^ 2)).testBit p2)
theorem bI_lt {a b : Bool} : bI a < bI b ↔ a = false ∧ b = true := by cases a <;> cases b <;> decide
theorem eBC_t {kd pl bn : Nat → Nat} {da : Int32} {x pp n p1 p2 w : Nat} (h1 : ¬ bI ((ebC kd pl bn da x pp n p1 p2 w).testBit p1) < bI ((ebC kd pl bn da x pp n p1 p2 (w ^^^ 1)).testBit p1)) (h2 : ¬ bI ((ebC kd pl bn da x pp n p1 p2 w).testBit p2) < bI ((ebC kd pl bn da x pp n p1 p2 (w ^^^ 2)).testBit p2)) : eBC kd pl bn da x pp n p1 p2 w = true := by
  rw [bI_lt] at h1 h2
  unfold eBC
  generalize (ebC kd pl bn da x pp n p1 p2 w).testBit p1 = q1 at *
  generalize (ebC kd pl bn da x pp n p1 p2 w).testBit p2 = q2 at *
  generalize (ebC kd pl bn da x pp n p1 p2 (w ^^^ 1)).testBit p1 = q3 at *
  generalize (ebC kd pl bn da x pp n p1 p2 (w ^^^ 2)).testBit p2 = q4 at *
  revert h1 h2; revert q1 q2 q3 q4; decide
theorem eBC_1 {kd pl bn : Nat → Nat} {da : Int32} {x pp n p1 p2 w : Nat} (h1 : bI ((ebC kd pl bn da x pp n p1 p2 w).testBit p1) < bI ((ebC kd pl bn da x pp n p1 p2 (w ^^^ 1)).testBit p1)) : eBC kd pl bn da x pp n p1 p2 w = false := by
  rw [bI_lt] at h1
  unfold eBC
  rw [h1.1, h1.2]; rfl
theorem eBC_2 {kd pl bn : Nat → Nat} {da : Int32} {x pp n p1 p2 w : Nat} (h2 : bI ((ebC kd pl bn da x pp n p1 p2 w).testBit p2) < bI ((ebC kd pl bn da x pp n p1 p2 (w ^^^ 2)).testBit p2)) : eBC kd pl bn da x pp n p1 p2 w = false := by
  rw [bI_lt] at h2
  unfold eBC
  rw [h2.1, h2.2]; simp
def arN (nt : Nat → Nat) (p kd pl k : Nat) : Bool := decide (¬ nt (k * 5) = p) || (tk kd (fr pl (nt (k * 5 + 1))) (decide (nt (k * 5 + 3) = 1)) false (evn (nI (nt (k * 5 + 2)))) == decide (nt (k * 5 + 4) = 1))
def arC (nt : Nat → Nat) (p kd pl : Nat) : Nat → Bool
  | 0 => true
  | k + 1 => arC nt p kd pl k && arN nt p kd pl k
theorem arC_no {nt : Nat → Nat} {p kd pl k : Nat} (h : arN nt p kd pl k = false) : ∀ {v : Nat}, k < v → arC nt p kd pl v = false
  | 0, hv => absurd hv (Nat.not_lt_zero k)
  | v + 1, hv => by
    rw [arC]
    by_cases e : k = v
    · rw [← e, h, Bool.and_false]
    · rw [arC_no h (by omega), Bool.false_and]
theorem arC_s {nt : Nat → Nat} {p kd pl k : Nat} (h0 : arC nt p kd pl k = true) (h : arN nt p kd pl k = true) : arC nt p kd pl (k + 1) = true := by rw [arC, h0, h]; rfl
theorem arN_0 {nt : Nat → Nat} {p kd pl k : Nat} (h : ¬ nt (k * 5) = p) : arN nt p kd pl k = true := by unfold arN; rw [decide_eq_true h]; rfl
theorem arN_e {nt : Nat → Nat} {p kd pl k : Nat} {b t : Bool} (h : nt (k * 5) = p) (hb : decide (nt (k * 5 + 3) = 1) = b) (ht : decide (nt (k * 5 + 4) = 1) = t) : arN nt p kd pl k = (tk kd (fr pl (nt (k * 5 + 1))) b false (evn (nI (nt (k * 5 + 2)))) == t) := by unfold arN; rw [hb, ht, decide_eq_false (not_not_intro h)]; rfl
def plC (nt kd : Nat → Nat) (p v : Nat) : Nat := bs (fun q => arC nt p (kd p) q v) 10
def ptC (kd : Nat → Nat) (da : Int32) (p x : Nat) : Nat := bs (fun q => tk (kd p) (fr q x) false false (evn da)) 10
def isC (nt pl : Nat → Nat) (p v : Nat) : Nat := bs (fun k => arC nt p k (pl p) v) 6
theorem plC_lt (nt kd : Nat → Nat) (p v : Nat) : plC nt kd p v < 1024 := bs_lt _ 10
theorem ptC_lt (kd : Nat → Nat) (da : Int32) (p x : Nat) : ptC kd da p x < 1024 := bs_lt _ 10
theorem andn_1024 {t m : Nat} (h : t < 1024) : andn t m < 1024 := Nat.lt_pow_two_of_testBit (n := 10) _ (fun i hi => by unfold andn; rw [bs_tb, Nat.testBit_lt_two_pow (Nat.lt_of_lt_of_le h (Nat.pow_le_pow_right (n := 2) (by decide) hi))]; simp)
def nxM (nt kd : Nat → Nat) (da : Int32) (p v x : Nat) : Nat := if ct (plC nt kd p v &&& ptC kd da p x).testBit 31 < ct (andn (plC nt kd p v) (plC nt kd p v &&& ptC kd da p x)).testBit 31 then ct (andn (plC nt kd p v) (plC nt kd p v &&& ptC kd da p x)).testBit 31 else ct (plC nt kd p v &&& ptC kd da p x).testBit 31
def nxC (nt kd : Nat → Nat) (da : Int32) (p v : Nat) : Nat → Int32 × Nat
  | 0 => (-1, 11)
  | k + 1 => if nxM nt kd da p v k < (nxC nt kd da p v k).2 then (nI k, nxM nt kd da p v k) else nxC nt kd da p v k
theorem max_N {a b : Nat} (ha : a < 2147483648) (hb : b < 2147483648) : (if nI a < nI b then nI b else nI a) = nI (if a < b then b else a) := by
  by_cases h : a < b
  · rw [if_pos h, if_pos ((nI_ltI ha hb).mpr h)]
  · rw [if_neg h, if_neg (fun q => h ((nI_ltI ha hb).mp q))]
def trC (T bx p c m : Nat) : Nat := (if T.testBit p then 10 - c else 0) * (10 ^ m / 10) + (if bx.testBit p then 1 else 0) * c ^ m
theorem trC_lt {T bx p c m : Nat} (hc : c ≤ 10) (hm : m ≤ 7) : trC T bx p c m < 1099511627776 ∧ 10 ^ m ≤ 10000000 ∧ c ^ m ≤ 10000000 ∧ 10 ^ m / 10 ≤ 1000000 := by
  have h1 : 10 ^ m ≤ 10 ^ 7 := Nat.pow_le_pow_right (by decide) hm
  have h2 : c ^ m ≤ 10 ^ m := Nat.pow_le_pow_left hc m
  have h3 : 10 ^ m / 10 ≤ 1000000 := by omega
  refine ⟨?_, by omega, by omega, h3⟩
  unfold trC
  have h4 : (if T.testBit p then 10 - c else 0) * (10 ^ m / 10) ≤ 10 * 1000000 := Nat.mul_le_mul (by split <;> omega) h3
  have h5 : (if bx.testBit p then 1 else 0) * c ^ m ≤ 1 * 10000000 := Nat.mul_le_mul (by split <;> omega) (by omega)
  omega
theorem bI_mul {b : Bool} {k : Nat} : bI b * nI k = nI (if b then k else 0) := by
  cases b
  · exact Int32.zero_mul
  · exact Int32.one_mul (nI k)
theorem bI_l {b : Bool} : (bI b).toInt64 = lN (if b then 1 else 0) := by cases b <;> decide
theorem pw_step {m j c : Nat} (h : 0 < j) (hj : j ≤ m) : c ^ (m - j) * c = c ^ (m - (j - 1)) := by
  rw [show m - (j - 1) = m - j + 1 by omega]; exact (Nat.pow_succ ..).symm
theorem be0 {b : Bool} (h : bI b = nI 0) : (b == false) = true := by cases b; rfl; exact absurd h (by decide)
theorem be1 {b : Bool} (h : bI b = nI 1) : (b == true) = true := by cases b; exact absurd h (by decide); rfl
theorem ben0 {b : Bool} (h : ¬ bI b = nI 0) : (b == false) = false := by cases b; exact absurd rfl h; rfl
theorem ben1 {b : Bool} (h : ¬ bI b = nI 1) : (b == true) = false := by cases b; rfl; exact absurd rfl h

set_option maxHeartbeats 600000 in
set_option maxRecDepth 100000 in
theorem f_X11_ears_ok (l : Launch) (E : Ew) (x : Nat → Nat) (h : Nat → Nat) (dr : Nat → Nat) (da : Int32) (de : Int32) (no : Int32) (pa : Int32) (n : Nat) (kd : Nat → Nat) (pl : Nat → Nat) (bn : Nat → Nat) (ao : Nat → Nat) (at1 : Nat → Nat) (an : Nat → Nat) (p1 : Nat) (p2 : Nat) (x0 : Nat) (pp : Nat) (hn7 : n ≤ 7) (hkd : ∀ p, p < n → kd p < 6) (hpl : ∀ p, p < n → pl p < 10) (hbn : ∀ j, j < 7 → bn j < 2 ^ n) (hx : x0 < n) (hpp : pp < 10) (hb : ∀ j, j < 7 → bn j < 128) (h1 : p1 < n) (h2 : p2 < n) (hne : p1 ≠ p2) : Fn l E 6 yX11_ears cX11_ears 12 (some .int) [.ref (x 0), .int (nI p1), .int (nI p2), .int (nI x0), .int (nI pp)] [(x 0, .inr (11, oL x h dr)), (x 7, .inr (6, oG x)), (x 8, .inl (E.2.1 4, 6, .inr (.inr (.inr (.inr (fun j => some (x (14 + j)))))))), (x 14, .inr (7, [])), (x 15, .inr (0, [])), (x 16, .inr (3, [])), (x 17, .inr (1, [])), (x 18, .inr (9, [])), (x 19, .inr (2, [])), (x 9, .inl (E.2.1 0, 10, .inl (nf ao))), (x 10, .inl (E.2.1 0, 10, .inl (nf at1))), (x 11, .inl (E.2.1 0, 10, .inl (nf an))), (h 0, .inr (5, oH h da (nI n) de no pa)), (h 1, .inl (E.2.1 0, 7, .inl (nf kd))), (h 2, .inl (E.2.1 0, 7, .inl (nf pl))), (h 3, .inl (E.2.1 0, 7, .inl (nf bn)))] (some (.int (nI (bs (eBC kd pl bn da x0 pp n p1 p2) 4)))) [(x 0, .inr (11, oL x h dr)), (x 7, .inr (6, oG x)), (x 8, .inl (E.2.1 4, 6, .inr (.inr (.inr (.inr (fun j => some (x (14 + j)))))))), (x 14, .inr (7, [])), (x 15, .inr (0, [])), (x 16, .inr (3, [])), (x 17, .inr (1, [])), (x 18, .inr (9, [])), (x 19, .inr (2, [])), (x 9, .inl (E.2.1 0, 10, .inl (nf (un ao pp (hB kd pl pp da true false n))))), (x 10, .inl (E.2.1 0, 10, .inl (nf (un at1 pp (hB kd pl pp da false false n))))), (x 11, .inl (E.2.1 0, 10, .inl (nf (un an pp (hB kd pl pp da false true n))))), (h 0, .inr (5, oH h da (nI n) de no pa)), (h 1, .inl (E.2.1 0, 7, .inl (nf kd))), (h 2, .inl (E.2.1 0, 7, .inl (nf pl))), (h 3, .inl (E.2.1 0, 7, .inl (nf bn)))] := by
  refine fn_I (by decide) (Nat.le_of_ble_eq_true rfl) rfl ?_
  intro K hC hR
  show G K E 12 [(x 0, .inr (11, oL x h dr)), (x 7, .inr (6, oG x)), (x 8, .inl (E.2.1 4, 6, .inr (.inr (.inr (.inr (fun j => some (x (14 + j)))))))), (x 14, .inr (7, [])), (x 15, .inr (0, [])), (x 16, .inr (3, [])), (x 17, .inr (1, [])), (x 18, .inr (9, [])), (x 19, .inr (2, [])), (x 9, .inl (E.2.1 0, 10, .inl (nf ao))), (x 10, .inl (E.2.1 0, 10, .inl (nf at1))), (x 11, .inl (E.2.1 0, 10, .inl (nf an))), (h 0, .inr (5, oH h da (nI n) de no pa)), (h 1, .inl (E.2.1 0, 7, .inl (nf kd))), (h 2, .inl (E.2.1 0, 7, .inl (nf pl))), (h 3, .inl (E.2.1 0, 7, .inl (nf bn)))] [(0, .ref (x 0)), (1, .int (nI p1)), (2, .int (nI p2)), (3, .int (nI x0)), (4, .int (nI pp))] 0 []
  have hHT := HT_lt kd pl bn da x0 pp hn7
  have hbx := hb x0 (by omega)
  have hel : ∀ w, ebC kd pl bn da x0 pp n p1 p2 w < 2147483648 := fun w => by unfold ebC; split; omega; exact andn_lt _ _
  refine g_aload_n hC dX11_ears_0 rfl 0 rfl ?_
  refine g_iload_n hC dX11_ears_1 rfl 1 rfl ?_
  refine g_callV hC (f_X11_isThere (kl K) E x h dr da de no pa n (nI p1) (by omega)) wX11_isThere m2_156 dX11_ears_2 [0, 12] [(x 0, .inr (11, oL x h dr)), (x 7, .inr (6, oG x)), (x 8, .inl (E.2.1 4, 6, .inr (.inr (.inr (.inr (fun j => some (x (14 + j)))))))), (x 14, .inr (7, [])), (x 15, .inr (0, [])), (x 16, .inr (3, [])), (x 17, .inr (1, [])), (x 18, .inr (9, [])), (x 19, .inr (2, [])), (x 9, .inl (E.2.1 0, 10, .inl (nf ao))), (x 10, .inl (E.2.1 0, 10, .inl (nf at1))), (x 11, .inl (E.2.1 0, 10, .inl (nf an))), (h 0, .inr (5, oH h da (nI n) de no pa)), (h 1, .inl (E.2.1 0, 7, .inl (nf kd))), (h 2, .inl (E.2.1 0, 7, .inl (nf pl))), (h 3, .inl (E.2.1 0, 7, .inl (nf bn)))] 0 11 rfl rfl (by decide) rfl (Nat.le_of_ble_eq_true rfl) rfl rfl rfl rfl rfl ?_
  refine g_if_eqB (tgt := 39) hC dX11_ears_5 (by decide) (fun h_5 => ?_) (fun h_5 => ?_)
  · exact Bool.noConfusion ((inB_ok (by omega) (by omega)).symm.trans h_5)
  · refine g_aload_n hC dX11_ears_8 rfl 0 rfl ?_
    refine g_iload_n hC dX11_ears_9 rfl 2 rfl ?_
    refine g_callV hC (f_X11_isThere (kl K) E x h dr da de no pa n (nI p2) (by omega)) wX11_isThere m2_156 dX11_ears_10 [0, 12] [(x 0, .inr (11, oL x h dr)), (x 7, .inr (6, oG x)), (x 8, .inl (E.2.1 4, 6, .inr (.inr (.inr (.inr (fun j => some (x (14 + j)))))))), (x 14, .inr (7, [])), (x 15, .inr (0, [])), (x 16, .inr (3, [])), (x 17, .inr (1, [])), (x 18, .inr (9, [])), (x 19, .inr (2, [])), (x 9, .inl (E.2.1 0, 10, .inl (nf ao))), (x 10, .inl (E.2.1 0, 10, .inl (nf at1))), (x 11, .inl (E.2.1 0, 10, .inl (nf an))), (h 0, .inr (5, oH h da (nI n) de no pa)), (h 1, .inl (E.2.1 0, 7, .inl (nf kd))), (h 2, .inl (E.2.1 0, 7, .inl (nf pl))), (h 3, .inl (E.2.1 0, 7, .inl (nf bn)))] 0 11 rfl rfl (by decide) rfl (Nat.le_of_ble_eq_true rfl) rfl rfl rfl rfl rfl ?_
    refine g_if_eqB (tgt := 39) hC dX11_ears_13 (by decide) (fun h_13 => ?_) (fun h_13 => ?_)
    · exact Bool.noConfusion ((inB_ok (by omega) (by omega)).symm.trans h_13)
    · refine g_iload_n hC dX11_ears_16 rfl 1 rfl ?_
      refine g_iload_n hC dX11_ears_17 rfl 2 rfl ?_
      refine g_icmp_eqN (tgt := 39) hC dX11_ears_18 (by decide) (by omega) (by omega) (fun h_18 => ?_) (fun h_18 => ?_)
      · omega
      · refine g_aload_n hC dX11_ears_21 rfl 0 rfl ?_
        refine g_iload_n hC dX11_ears_22 rfl 3 rfl ?_
        refine g_callV hC (f_X11_isThere (kl K) E x h dr da de no pa n (nI x0) (by omega)) wX11_isThere m2_156 dX11_ears_23 [0, 12] [(x 0, .inr (11, oL x h dr)), (x 7, .inr (6, oG x)), (x 8, .inl (E.2.1 4, 6, .inr (.inr (.inr (.inr (fun j => some (x (14 + j)))))))), (x 14, .inr (7, [])), (x 15, .inr (0, [])), (x 16, .inr (3, [])), (x 17, .inr (1, [])), (x 18, .inr (9, [])), (x 19, .inr (2, [])), (x 9, .inl (E.2.1 0, 10, .inl (nf ao))), (x 10, .inl (E.2.1 0, 10, .inl (nf at1))), (x 11, .inl (E.2.1 0, 10, .inl (nf an))), (h 0, .inr (5, oH h da (nI n) de no pa)), (h 1, .inl (E.2.1 0, 7, .inl (nf kd))), (h 2, .inl (E.2.1 0, 7, .inl (nf pl))), (h 3, .inl (E.2.1 0, 7, .inl (nf bn)))] 0 11 rfl rfl (by decide) rfl (Nat.le_of_ble_eq_true rfl) rfl rfl rfl rfl rfl ?_
        refine g_if_eqB (tgt := 39) hC dX11_ears_26 (by decide) (fun h_26 => ?_) (fun h_26 => ?_)
        · exact Bool.noConfusion ((inB_ok (by omega) (by omega)).symm.trans h_26)
        · refine g_iload hC dX11_ears_29 4 rfl ?_
          refine g_bipush (v := (nI 10)) hC dX11_ears_31 (by decide) ?_
          refine g_callS hC (f_X11_within (kl K) E (nI pp) 10 (by omega)) wX11_within m2_13 dX11_ears_33 [] [(x 0, .inr (11, oL x h dr)), (x 7, .inr (6, oG x)), (x 8, .inl (E.2.1 4, 6, .inr (.inr (.inr (.inr (fun j => some (x (14 + j)))))))), (x 14, .inr (7, [])), (x 15, .inr (0, [])), (x 16, .inr (3, [])), (x 17, .inr (1, [])), (x 18, .inr (9, [])), (x 19, .inr (2, [])), (x 9, .inl (E.2.1 0, 10, .inl (nf ao))), (x 10, .inl (E.2.1 0, 10, .inl (nf at1))), (x 11, .inl (E.2.1 0, 10, .inl (nf an))), (h 0, .inr (5, oH h da (nI n) de no pa)), (h 1, .inl (E.2.1 0, 7, .inl (nf kd))), (h 2, .inl (E.2.1 0, 7, .inl (nf pl))), (h 3, .inl (E.2.1 0, 7, .inl (nf bn)))] (by decide) rfl (Nat.le_of_ble_eq_true rfl) rfl rfl rfl rfl rfl ?_
          refine g_if_neB (tgt := 46) hC dX11_ears_36 (by decide) (fun h_36 => ?_) (fun h_36 => ?_)
          · refine g_aload_n hC dX11_ears_46 rfl 0 rfl ?_
            refine g_iload_n hC dX11_ears_47 rfl 3 rfl ?_
            refine g_iload hC dX11_ears_48 4 rfl ?_
            refine g_callV hC (f_X11_turnersAt (kl K) E x h dr da de no pa n kd pl bn ao at1 an x0 pp (by omega) (hkd) (hpl) (hbn) (by omega) (by omega)) wX11_turnersAt m2_160 dX11_ears_50 [0, 1, 2, 3, 4, 5, 6, 7, 8, 9, 10, 11, 12, 13, 14, 15] [(x 0, .inr (11, oL x h dr)), (x 7, .inr (6, oG x)), (x 8, .inl (E.2.1 4, 6, .inr (.inr (.inr (.inr (fun j => some (x (14 + j)))))))), (x 14, .inr (7, [])), (x 15, .inr (0, [])), (x 16, .inr (3, [])), (x 17, .inr (1, [])), (x 18, .inr (9, [])), (x 19, .inr (2, [])), (x 9, .inl (E.2.1 0, 10, .inl (nf (un ao pp (hB kd pl pp da true false n))))), (x 10, .inl (E.2.1 0, 10, .inl (nf (un at1 pp (hB kd pl pp da false false n))))), (x 11, .inl (E.2.1 0, 10, .inl (nf (un an pp (hB kd pl pp da false true n))))), (h 0, .inr (5, oH h da (nI n) de no pa)), (h 1, .inl (E.2.1 0, 7, .inl (nf kd))), (h 2, .inl (E.2.1 0, 7, .inl (nf pl))), (h 3, .inl (E.2.1 0, 7, .inl (nf bn)))] 0 11 rfl rfl (by decide) rfl (Nat.le_of_ble_eq_true rfl) rfl rfl rfl rfl rfl ?_
            refine g_istore hC [(5, .int (nI (HT kd pl bn da x0 pp n))), (0, .ref (x 0)), (1, .int (nI p1)), (2, .int (nI p2)), (3, .int (nI x0)), (4, .int (nI pp))] dX11_ears_53 (by decide) rfl ?_
            refine g_aload_n hC dX11_ears_55 rfl 1 rfl ?_
            refine g_get hC 0 11 0 inX11 m1_221 dX11_ears_56 rfl rfl (by decide) rfl ?_
            refine g_get hC 12 5 4 inX5 m1_52 dX11_ears_59 rfl rfl (by decide) rfl ?_
            refine g_iload_n hC dX11_ears_62 rfl 4 rfl ?_
            refine g_ialdN hC 15 dX11_ears_63 rfl (by decide) (by omega) ?_
            refine g_val (v' := .int (nI (bn x0))) rfl ?_
            refine g_istore hC [(6, .int (nI (bn x0))), (5, .int (nI (HT kd pl bn da x0 pp n))), (0, .ref (x 0)), (1, .int (nI p1)), (2, .int (nI p2)), (3, .int (nI x0)), (4, .int (nI pp))] dX11_ears_64 (by decide) rfl ?_
            refine g_iconst (v := (nI 0)) hC dX11_ears_66 (by decide) ?_
            refine g_istore hC [(7, .int (nI 0)), (6, .int (nI (bn x0))), (5, .int (nI (HT kd pl bn da x0 pp n))), (0, .ref (x 0)), (1, .int (nI p1)), (2, .int (nI p2)), (3, .int (nI x0)), (4, .int (nI pp))] dX11_ears_67 (by decide) rfl ?_
            refine g_iconst (v := (nI 0)) hC dX11_ears_69 (by decide) ?_
            refine g_istore hC [(8, .int (nI 0)), (7, .int (nI 0)), (6, .int (nI (bn x0))), (5, .int (nI (HT kd pl bn da x0 pp n))), (0, .ref (x 0)), (1, .int (nI p1)), (2, .int (nI p2)), (3, .int (nI x0)), (4, .int (nI pp))] dX11_ears_70 (by decide) rfl ?_
            have L_72 : ∀ (fu : Nat) (k : Nat) (hk : k ≤ 4), 4 - k < fu → G K E 12 [(x 0, .inr (11, oL x h dr)), (x 7, .inr (6, oG x)), (x 8, .inl (E.2.1 4, 6, .inr (.inr (.inr (.inr (fun j => some (x (14 + j)))))))), (x 14, .inr (7, [])), (x 15, .inr (0, [])), (x 16, .inr (3, [])), (x 17, .inr (1, [])), (x 18, .inr (9, [])), (x 19, .inr (2, [])), (x 9, .inl (E.2.1 0, 10, .inl (nf (un ao pp (hB kd pl pp da true false n))))), (x 10, .inl (E.2.1 0, 10, .inl (nf (un at1 pp (hB kd pl pp da false false n))))), (x 11, .inl (E.2.1 0, 10, .inl (nf (un an pp (hB kd pl pp da false true n))))), (h 0, .inr (5, oH h da (nI n) de no pa)), (h 1, .inl (E.2.1 0, 7, .inl (nf kd))), (h 2, .inl (E.2.1 0, 7, .inl (nf pl))), (h 3, .inl (E.2.1 0, 7, .inl (nf bn)))] [(8, .int (nI k)), (7, .int (nI (bs (eBC kd pl bn da x0 pp n p1 p2) k))), (5, .int (nI (HT kd pl bn da x0 pp n))), (6, .int (nI (bn x0))), (0, .ref (x 0)), (1, .int (nI p1)), (2, .int (nI p2))] 72 [] := by
              intro fu
              induction fu with
              | zero => intro k hk hm_72; exact absurd hm_72 (Nat.not_lt_zero _)
              | succ fu ih_72 =>
                intro k hk hm_72
                refine g_iload hC dX11_ears_72 0 rfl ?_
                refine g_iconst (v := (nI 4)) hC dX11_ears_74 (by decide) ?_
                refine g_icmp_geN (tgt := 184) hC dX11_ears_75 (by decide) (by omega) (by omega) (fun h_75 => ?_) (fun h_75 => ?_)
                · refine g_iload hC dX11_ears_184 1 rfl ?_
                  exact g_val (by rw [show k = 4 by omega]) (g_ws (rfl) (hR _ _ dX11_ears_186))
                · refine g_iload hC dX11_ears_78 3 rfl ?_
                  refine g_iload hC dX11_ears_80 2 rfl ?_
                  refine g_iload hC dX11_ears_82 0 rfl ?_
                  refine g_iload_n hC dX11_ears_84 rfl 5 rfl ?_
                  refine g_iload_n hC dX11_ears_85 rfl 6 rfl ?_
                  refine g_callS hC (f_X11_stopped (kl K) E k p1 p2 (by omega) (by omega) (by omega)) wX11_stopped m3_94 dX11_ears_86 [] [(x 0, .inr (11, oL x h dr)), (x 7, .inr (6, oG x)), (x 8, .inl (E.2.1 4, 6, .inr (.inr (.inr (.inr (fun j => some (x (14 + j)))))))), (x 14, .inr (7, [])), (x 15, .inr (0, [])), (x 16, .inr (3, [])), (x 17, .inr (1, [])), (x 18, .inr (9, [])), (x 19, .inr (2, [])), (x 9, .inl (E.2.1 0, 10, .inl (nf (un ao pp (hB kd pl pp da true false n))))), (x 10, .inl (E.2.1 0, 10, .inl (nf (un at1 pp (hB kd pl pp da false false n))))), (x 11, .inl (E.2.1 0, 10, .inl (nf (un an pp (hB kd pl pp da false true n))))), (h 0, .inr (5, oH h da (nI n) de no pa)), (h 1, .inl (E.2.1 0, 7, .inl (nf kd))), (h 2, .inl (E.2.1 0, 7, .inl (nf pl))), (h 3, .inl (E.2.1 0, 7, .inl (nf bn)))] (by decide) rfl (Nat.le_of_ble_eq_true rfl) rfl rfl rfl rfl rfl ?_
                  refine g_iconst (v := (-1)) hC dX11_ears_89 (by decide) ?_
                  refine g_ixor hC dX11_ears_90 ?_
                  refine g_iand hC dX11_ears_91 ?_
                  refine g_val (v' := .int (nI (andn (HT kd pl bn da x0 pp n) (stp k p1 p2)))) (by rw [andn_N (by omega)]) ?_
                  refine g_callS hC (f_X11_bearersBehind (kl K) E (bn x0) (andn (HT kd pl bn da x0 pp n) (stp k p1 p2)) (andn_lt _ _)) wX11_bearersBehind m3_98 dX11_ears_92 [] [(x 0, .inr (11, oL x h dr)), (x 7, .inr (6, oG x)), (x 8, .inl (E.2.1 4, 6, .inr (.inr (.inr (.inr (fun j => some (x (14 + j)))))))), (x 14, .inr (7, [])), (x 15, .inr (0, [])), (x 16, .inr (3, [])), (x 17, .inr (1, [])), (x 18, .inr (9, [])), (x 19, .inr (2, [])), (x 9, .inl (E.2.1 0, 10, .inl (nf (un ao pp (hB kd pl pp da true false n))))), (x 10, .inl (E.2.1 0, 10, .inl (nf (un at1 pp (hB kd pl pp da false false n))))), (x 11, .inl (E.2.1 0, 10, .inl (nf (un an pp (hB kd pl pp da false true n))))), (h 0, .inr (5, oH h da (nI n) de no pa)), (h 1, .inl (E.2.1 0, 7, .inl (nf kd))), (h 2, .inl (E.2.1 0, 7, .inl (nf pl))), (h 3, .inl (E.2.1 0, 7, .inl (nf bn)))] (by decide) rfl (Nat.le_of_ble_eq_true rfl) rfl rfl rfl rfl rfl ?_
                  refine g_istore hC [(9, .int (nI (if (andn (HT kd pl bn da x0 pp n) (stp k p1 p2)) = 0 then (bn x0) else (andn (HT kd pl bn da x0 pp n) (stp k p1 p2))))), (8, .int (nI k)), (7, .int (nI (bs (eBC kd pl bn da x0 pp n p1 p2) k))), (5, .int (nI (HT kd pl bn da x0 pp n))), (6, .int (nI (bn x0))), (0, .ref (x 0)), (1, .int (nI p1)), (2, .int (nI p2))] dX11_ears_95 (by decide) rfl ?_
                  refine g_iload hC dX11_ears_97 4 rfl ?_
                  refine g_iload hC dX11_ears_99 3 rfl ?_
                  refine g_iload hC dX11_ears_101 1 rfl ?_
                  refine g_iconst (v := (nI 1)) hC dX11_ears_103 (by decide) ?_
                  refine g_ixor hC dX11_ears_104 ?_
                  refine g_val (v' := .int (nI (k ^^^ 1))) (by rw [fb_xorI]) ?_
                  refine g_iload_n hC dX11_ears_105 rfl 6 rfl ?_
                  refine g_iload_n hC dX11_ears_106 rfl 7 rfl ?_
                  refine g_callS hC (f_X11_stopped (kl K) E (k ^^^ 1) p1 p2 (xor_lt4 (by omega) (by decide)) (by omega) (by omega)) wX11_stopped m3_94 dX11_ears_107 [] [(x 0, .inr (11, oL x h dr)), (x 7, .inr (6, oG x)), (x 8, .inl (E.2.1 4, 6, .inr (.inr (.inr (.inr (fun j => some (x (14 + j)))))))), (x 14, .inr (7, [])), (x 15, .inr (0, [])), (x 16, .inr (3, [])), (x 17, .inr (1, [])), (x 18, .inr (9, [])), (x 19, .inr (2, [])), (x 9, .inl (E.2.1 0, 10, .inl (nf (un ao pp (hB kd pl pp da true false n))))), (x 10, .inl (E.2.1 0, 10, .inl (nf (un at1 pp (hB kd pl pp da false false n))))), (x 11, .inl (E.2.1 0, 10, .inl (nf (un an pp (hB kd pl pp da false true n))))), (h 0, .inr (5, oH h da (nI n) de no pa)), (h 1, .inl (E.2.1 0, 7, .inl (nf kd))), (h 2, .inl (E.2.1 0, 7, .inl (nf pl))), (h 3, .inl (E.2.1 0, 7, .inl (nf bn)))] (by decide) rfl (Nat.le_of_ble_eq_true rfl) rfl rfl rfl rfl rfl ?_
                  refine g_iconst (v := (-1)) hC dX11_ears_110 (by decide) ?_
                  refine g_ixor hC dX11_ears_111 ?_
                  refine g_iand hC dX11_ears_112 ?_
                  refine g_val (v' := .int (nI (andn (HT kd pl bn da x0 pp n) (stp (k ^^^ 1) p1 p2)))) (by rw [andn_N (by omega)]) ?_
                  refine g_callS hC (f_X11_bearersBehind (kl K) E (bn x0) (andn (HT kd pl bn da x0 pp n) (stp (k ^^^ 1) p1 p2)) (andn_lt _ _)) wX11_bearersBehind m3_98 dX11_ears_113 [] [(x 0, .inr (11, oL x h dr)), (x 7, .inr (6, oG x)), (x 8, .inl (E.2.1 4, 6, .inr (.inr (.inr (.inr (fun j => some (x (14 + j)))))))), (x 14, .inr (7, [])), (x 15, .inr (0, [])), (x 16, .inr (3, [])), (x 17, .inr (1, [])), (x 18, .inr (9, [])), (x 19, .inr (2, [])), (x 9, .inl (E.2.1 0, 10, .inl (nf (un ao pp (hB kd pl pp da true false n))))), (x 10, .inl (E.2.1 0, 10, .inl (nf (un at1 pp (hB kd pl pp da false false n))))), (x 11, .inl (E.2.1 0, 10, .inl (nf (un an pp (hB kd pl pp da false true n))))), (h 0, .inr (5, oH h da (nI n) de no pa)), (h 1, .inl (E.2.1 0, 7, .inl (nf kd))), (h 2, .inl (E.2.1 0, 7, .inl (nf pl))), (h 3, .inl (E.2.1 0, 7, .inl (nf bn)))] (by decide) rfl (Nat.le_of_ble_eq_true rfl) rfl rfl rfl rfl rfl ?_
                  refine g_istore hC [(10, .int (nI (if (andn (HT kd pl bn da x0 pp n) (stp (k ^^^ 1) p1 p2)) = 0 then (bn x0) else (andn (HT kd pl bn da x0 pp n) (stp (k ^^^ 1) p1 p2))))), (9, .int (nI (if (andn (HT kd pl bn da x0 pp n) (stp k p1 p2)) = 0 then (bn x0) else (andn (HT kd pl bn da x0 pp n) (stp k p1 p2))))), (8, .int (nI k)), (7, .int (nI (bs (eBC kd pl bn da x0 pp n p1 p2) k))), (5, .int (nI (HT kd pl bn da x0 pp n))), (6, .int (nI (bn x0))), (0, .ref (x 0)), (1, .int (nI p1)), (2, .int (nI p2))] dX11_ears_116 (by decide) rfl ?_
                  refine g_iload hC dX11_ears_118 5 rfl ?_
                  refine g_iload hC dX11_ears_120 4 rfl ?_
                  refine g_iload hC dX11_ears_122 2 rfl ?_
                  refine g_iconst (v := (nI 2)) hC dX11_ears_124 (by decide) ?_
                  refine g_ixor hC dX11_ears_125 ?_
                  refine g_val (v' := .int (nI (k ^^^ 2))) (by rw [fb_xorI]) ?_
                  refine g_iload_n hC dX11_ears_126 rfl 7 rfl ?_
                  refine g_iload_n hC dX11_ears_127 rfl 8 rfl ?_
                  refine g_callS hC (f_X11_stopped (kl K) E (k ^^^ 2) p1 p2 (xor_lt4 (by omega) (by decide)) (by omega) (by omega)) wX11_stopped m3_94 dX11_ears_128 [] [(x 0, .inr (11, oL x h dr)), (x 7, .inr (6, oG x)), (x 8, .inl (E.2.1 4, 6, .inr (.inr (.inr (.inr (fun j => some (x (14 + j)))))))), (x 14, .inr (7, [])), (x 15, .inr (0, [])), (x 16, .inr (3, [])), (x 17, .inr (1, [])), (x 18, .inr (9, [])), (x 19, .inr (2, [])), (x 9, .inl (E.2.1 0, 10, .inl (nf (un ao pp (hB kd pl pp da true false n))))), (x 10, .inl (E.2.1 0, 10, .inl (nf (un at1 pp (hB kd pl pp da false false n))))), (x 11, .inl (E.2.1 0, 10, .inl (nf (un an pp (hB kd pl pp da false true n))))), (h 0, .inr (5, oH h da (nI n) de no pa)), (h 1, .inl (E.2.1 0, 7, .inl (nf kd))), (h 2, .inl (E.2.1 0, 7, .inl (nf pl))), (h 3, .inl (E.2.1 0, 7, .inl (nf bn)))] (by decide) rfl (Nat.le_of_ble_eq_true rfl) rfl rfl rfl rfl rfl ?_
                  refine g_iconst (v := (-1)) hC dX11_ears_131 (by decide) ?_
                  refine g_ixor hC dX11_ears_132 ?_
                  refine g_iand hC dX11_ears_133 ?_
                  refine g_val (v' := .int (nI (andn (HT kd pl bn da x0 pp n) (stp (k ^^^ 2) p1 p2)))) (by rw [andn_N (by omega)]) ?_
                  refine g_callS hC (f_X11_bearersBehind (kl K) E (bn x0) (andn (HT kd pl bn da x0 pp n) (stp (k ^^^ 2) p1 p2)) (andn_lt _ _)) wX11_bearersBehind m3_98 dX11_ears_134 [] [(x 0, .inr (11, oL x h dr)), (x 7, .inr (6, oG x)), (x 8, .inl (E.2.1 4, 6, .inr (.inr (.inr (.inr (fun j => some (x (14 + j)))))))), (x 14, .inr (7, [])), (x 15, .inr (0, [])), (x 16, .inr (3, [])), (x 17, .inr (1, [])), (x 18, .inr (9, [])), (x 19, .inr (2, [])), (x 9, .inl (E.2.1 0, 10, .inl (nf (un ao pp (hB kd pl pp da true false n))))), (x 10, .inl (E.2.1 0, 10, .inl (nf (un at1 pp (hB kd pl pp da false false n))))), (x 11, .inl (E.2.1 0, 10, .inl (nf (un an pp (hB kd pl pp da false true n))))), (h 0, .inr (5, oH h da (nI n) de no pa)), (h 1, .inl (E.2.1 0, 7, .inl (nf kd))), (h 2, .inl (E.2.1 0, 7, .inl (nf pl))), (h 3, .inl (E.2.1 0, 7, .inl (nf bn)))] (by decide) rfl (Nat.le_of_ble_eq_true rfl) rfl rfl rfl rfl rfl ?_
                  refine g_istore hC [(11, .int (nI (if (andn (HT kd pl bn da x0 pp n) (stp (k ^^^ 2) p1 p2)) = 0 then (bn x0) else (andn (HT kd pl bn da x0 pp n) (stp (k ^^^ 2) p1 p2))))), (10, .int (nI (if (andn (HT kd pl bn da x0 pp n) (stp (k ^^^ 1) p1 p2)) = 0 then (bn x0) else (andn (HT kd pl bn da x0 pp n) (stp (k ^^^ 1) p1 p2))))), (9, .int (nI (if (andn (HT kd pl bn da x0 pp n) (stp k p1 p2)) = 0 then (bn x0) else (andn (HT kd pl bn da x0 pp n) (stp k p1 p2))))), (8, .int (nI k)), (7, .int (nI (bs (eBC kd pl bn da x0 pp n p1 p2) k))), (5, .int (nI (HT kd pl bn da x0 pp n))), (6, .int (nI (bn x0))), (0, .ref (x 0)), (1, .int (nI p1)), (2, .int (nI p2))] dX11_ears_137 (by decide) rfl ?_
                  refine g_iload hC dX11_ears_139 1 rfl ?_
                  refine g_iload_n hC dX11_ears_141 rfl 8 rfl ?_
                  refine g_callS hC (f_X11_bit (kl K) E (if (andn (HT kd pl bn da x0 pp n) (stp (k ^^^ 1) p1 p2)) = 0 then (bn x0) else (andn (HT kd pl bn da x0 pp n) (stp (k ^^^ 1) p1 p2))) p1 (hel _) (by omega)) wX11_bit m3_97 dX11_ears_142 [] [(x 0, .inr (11, oL x h dr)), (x 7, .inr (6, oG x)), (x 8, .inl (E.2.1 4, 6, .inr (.inr (.inr (.inr (fun j => some (x (14 + j)))))))), (x 14, .inr (7, [])), (x 15, .inr (0, [])), (x 16, .inr (3, [])), (x 17, .inr (1, [])), (x 18, .inr (9, [])), (x 19, .inr (2, [])), (x 9, .inl (E.2.1 0, 10, .inl (nf (un ao pp (hB kd pl pp da true false n))))), (x 10, .inl (E.2.1 0, 10, .inl (nf (un at1 pp (hB kd pl pp da false false n))))), (x 11, .inl (E.2.1 0, 10, .inl (nf (un an pp (hB kd pl pp da false true n))))), (h 0, .inr (5, oH h da (nI n) de no pa)), (h 1, .inl (E.2.1 0, 7, .inl (nf kd))), (h 2, .inl (E.2.1 0, 7, .inl (nf pl))), (h 3, .inl (E.2.1 0, 7, .inl (nf bn)))] (by decide) rfl (Nat.le_of_ble_eq_true rfl) rfl rfl rfl rfl rfl ?_
                  refine g_iload hC dX11_ears_145 2 rfl ?_
                  refine g_iload_n hC dX11_ears_147 rfl 8 rfl ?_
                  refine g_callS hC (f_X11_bit (kl K) E (if (andn (HT kd pl bn da x0 pp n) (stp k p1 p2)) = 0 then (bn x0) else (andn (HT kd pl bn da x0 pp n) (stp k p1 p2))) p1 (hel _) (by omega)) wX11_bit m3_97 dX11_ears_148 [] [(x 0, .inr (11, oL x h dr)), (x 7, .inr (6, oG x)), (x 8, .inl (E.2.1 4, 6, .inr (.inr (.inr (.inr (fun j => some (x (14 + j)))))))), (x 14, .inr (7, [])), (x 15, .inr (0, [])), (x 16, .inr (3, [])), (x 17, .inr (1, [])), (x 18, .inr (9, [])), (x 19, .inr (2, [])), (x 9, .inl (E.2.1 0, 10, .inl (nf (un ao pp (hB kd pl pp da true false n))))), (x 10, .inl (E.2.1 0, 10, .inl (nf (un at1 pp (hB kd pl pp da false false n))))), (x 11, .inl (E.2.1 0, 10, .inl (nf (un an pp (hB kd pl pp da false true n))))), (h 0, .inr (5, oH h da (nI n) de no pa)), (h 1, .inl (E.2.1 0, 7, .inl (nf kd))), (h 2, .inl (E.2.1 0, 7, .inl (nf pl))), (h 3, .inl (E.2.1 0, 7, .inl (nf bn)))] (by decide) rfl (Nat.le_of_ble_eq_true rfl) rfl rfl rfl rfl rfl ?_
                  refine g_icmp_gt (tgt := 178) hC dX11_ears_151 (by decide) (fun h_151 => ?_) (fun h_151 => ?_)
                  · refine g_iincN hC (q := 3) 1 [(8, .int (nI (k + 1))), (11, .int (nI (if (andn (HT kd pl bn da x0 pp n) (stp (k ^^^ 2) p1 p2)) = 0 then (bn x0) else (andn (HT kd pl bn da x0 pp n) (stp (k ^^^ 2) p1 p2))))), (10, .int (nI (if (andn (HT kd pl bn da x0 pp n) (stp (k ^^^ 1) p1 p2)) = 0 then (bn x0) else (andn (HT kd pl bn da x0 pp n) (stp (k ^^^ 1) p1 p2))))), (9, .int (nI (if (andn (HT kd pl bn da x0 pp n) (stp k p1 p2)) = 0 then (bn x0) else (andn (HT kd pl bn da x0 pp n) (stp k p1 p2))))), (7, .int (nI (bs (eBC kd pl bn da x0 pp n p1 p2) k))), (5, .int (nI (HT kd pl bn da x0 pp n))), (6, .int (nI (bn x0))), (0, .ref (x 0)), (1, .int (nI p1)), (2, .int (nI p2))] dX11_ears_178 rfl rfl (by decide) rfl ?_
                    refine g_goto (tgt := 72) hC dX11_ears_181 (by decide) ?_
                    refine g_lv (lv' := [(8, .int (nI (k + 1))), (7, .int (nI (bs (eBC kd pl bn da x0 pp n p1 p2) k))), (5, .int (nI (HT kd pl bn da x0 pp n))), (6, .int (nI (bn x0))), (0, .ref (x 0)), (1, .int (nI p1)), (2, .int (nI p2))]) [0, 4, 5, 6, 7, 8, 9] rfl ?_
                    refine g_lve (lv' := [(8, .int (nI (k + 1))), (7, .int (nI (bs (eBC kd pl bn da x0 pp n p1 p2) (k + 1)))), (5, .int (nI (HT kd pl bn da x0 pp n))), (6, .int (nI (bn x0))), (0, .ref (x 0)), (1, .int (nI p1)), (2, .int (nI p2))]) (by rw [bs_no' (p := eBC kd pl bn da x0 pp n p1 p2) (eBC_1 h_151)]) ?_
                    exact ih_72 (k + 1) (by omega) (by omega)
                  · refine g_iload hC dX11_ears_154 0 rfl ?_
                    refine g_iload_n hC dX11_ears_156 rfl 9 rfl ?_
                    refine g_callS hC (f_X11_bit (kl K) E (if (andn (HT kd pl bn da x0 pp n) (stp (k ^^^ 2) p1 p2)) = 0 then (bn x0) else (andn (HT kd pl bn da x0 pp n) (stp (k ^^^ 2) p1 p2))) p2 (hel _) (by omega)) wX11_bit m3_97 dX11_ears_157 [] [(x 0, .inr (11, oL x h dr)), (x 7, .inr (6, oG x)), (x 8, .inl (E.2.1 4, 6, .inr (.inr (.inr (.inr (fun j => some (x (14 + j)))))))), (x 14, .inr (7, [])), (x 15, .inr (0, [])), (x 16, .inr (3, [])), (x 17, .inr (1, [])), (x 18, .inr (9, [])), (x 19, .inr (2, [])), (x 9, .inl (E.2.1 0, 10, .inl (nf (un ao pp (hB kd pl pp da true false n))))), (x 10, .inl (E.2.1 0, 10, .inl (nf (un at1 pp (hB kd pl pp da false false n))))), (x 11, .inl (E.2.1 0, 10, .inl (nf (un an pp (hB kd pl pp da false true n))))), (h 0, .inr (5, oH h da (nI n) de no pa)), (h 1, .inl (E.2.1 0, 7, .inl (nf kd))), (h 2, .inl (E.2.1 0, 7, .inl (nf pl))), (h 3, .inl (E.2.1 0, 7, .inl (nf bn)))] (by decide) rfl (Nat.le_of_ble_eq_true rfl) rfl rfl rfl rfl rfl ?_
                    refine g_iload hC dX11_ears_160 2 rfl ?_
                    refine g_iload_n hC dX11_ears_162 rfl 9 rfl ?_
                    refine g_callS hC (f_X11_bit (kl K) E (if (andn (HT kd pl bn da x0 pp n) (stp k p1 p2)) = 0 then (bn x0) else (andn (HT kd pl bn da x0 pp n) (stp k p1 p2))) p2 (hel _) (by omega)) wX11_bit m3_97 dX11_ears_163 [] [(x 0, .inr (11, oL x h dr)), (x 7, .inr (6, oG x)), (x 8, .inl (E.2.1 4, 6, .inr (.inr (.inr (.inr (fun j => some (x (14 + j)))))))), (x 14, .inr (7, [])), (x 15, .inr (0, [])), (x 16, .inr (3, [])), (x 17, .inr (1, [])), (x 18, .inr (9, [])), (x 19, .inr (2, [])), (x 9, .inl (E.2.1 0, 10, .inl (nf (un ao pp (hB kd pl pp da true false n))))), (x 10, .inl (E.2.1 0, 10, .inl (nf (un at1 pp (hB kd pl pp da false false n))))), (x 11, .inl (E.2.1 0, 10, .inl (nf (un an pp (hB kd pl pp da false true n))))), (h 0, .inr (5, oH h da (nI n) de no pa)), (h 1, .inl (E.2.1 0, 7, .inl (nf kd))), (h 2, .inl (E.2.1 0, 7, .inl (nf pl))), (h 3, .inl (E.2.1 0, 7, .inl (nf bn)))] (by decide) rfl (Nat.le_of_ble_eq_true rfl) rfl rfl rfl rfl rfl ?_
                    refine g_icmp_gt (tgt := 178) hC dX11_ears_166 (by decide) (fun h_166 => ?_) (fun h_166 => ?_)
                    · refine g_iincN hC (q := 3) 1 [(8, .int (nI (k + 1))), (11, .int (nI (if (andn (HT kd pl bn da x0 pp n) (stp (k ^^^ 2) p1 p2)) = 0 then (bn x0) else (andn (HT kd pl bn da x0 pp n) (stp (k ^^^ 2) p1 p2))))), (10, .int (nI (if (andn (HT kd pl bn da x0 pp n) (stp (k ^^^ 1) p1 p2)) = 0 then (bn x0) else (andn (HT kd pl bn da x0 pp n) (stp (k ^^^ 1) p1 p2))))), (9, .int (nI (if (andn (HT kd pl bn da x0 pp n) (stp k p1 p2)) = 0 then (bn x0) else (andn (HT kd pl bn da x0 pp n) (stp k p1 p2))))), (7, .int (nI (bs (eBC kd pl bn da x0 pp n p1 p2) k))), (5, .int (nI (HT kd pl bn da x0 pp n))), (6, .int (nI (bn x0))), (0, .ref (x 0)), (1, .int (nI p1)), (2, .int (nI p2))] dX11_ears_178 rfl rfl (by decide) rfl ?_
                      refine g_goto (tgt := 72) hC dX11_ears_181 (by decide) ?_
                      refine g_lv (lv' := [(8, .int (nI (k + 1))), (7, .int (nI (bs (eBC kd pl bn da x0 pp n p1 p2) k))), (5, .int (nI (HT kd pl bn da x0 pp n))), (6, .int (nI (bn x0))), (0, .ref (x 0)), (1, .int (nI p1)), (2, .int (nI p2))]) [0, 4, 5, 6, 7, 8, 9] rfl ?_
                      refine g_lve (lv' := [(8, .int (nI (k + 1))), (7, .int (nI (bs (eBC kd pl bn da x0 pp n p1 p2) (k + 1)))), (5, .int (nI (HT kd pl bn da x0 pp n))), (6, .int (nI (bn x0))), (0, .ref (x 0)), (1, .int (nI p1)), (2, .int (nI p2))]) (by rw [bs_no' (p := eBC kd pl bn da x0 pp n p1 p2) (eBC_2 h_166)]) ?_
                      exact ih_72 (k + 1) (by omega) (by omega)
                    · refine g_iload hC dX11_ears_169 4 rfl ?_
                      refine g_iconst (v := (nI 1)) hC dX11_ears_171 (by decide) ?_
                      refine g_iload hC dX11_ears_172 3 rfl ?_
                      refine g_ishl hC dX11_ears_174 ?_
                      refine g_ior hC dX11_ears_175 ?_
                      refine g_val (v' := .int (nI (bs (eBC kd pl bn da x0 pp n p1 p2) (k + 1)))) (by rw [bs_yes (p := eBC kd pl bn da x0 pp n p1 p2) (by omega) (eBC_t h_151 h_166)]) ?_
                      refine g_istore hC [(7, .int (nI (bs (eBC kd pl bn da x0 pp n p1 p2) (k + 1)))), (11, .int (nI (if (andn (HT kd pl bn da x0 pp n) (stp (k ^^^ 2) p1 p2)) = 0 then (bn x0) else (andn (HT kd pl bn da x0 pp n) (stp (k ^^^ 2) p1 p2))))), (10, .int (nI (if (andn (HT kd pl bn da x0 pp n) (stp (k ^^^ 1) p1 p2)) = 0 then (bn x0) else (andn (HT kd pl bn da x0 pp n) (stp (k ^^^ 1) p1 p2))))), (9, .int (nI (if (andn (HT kd pl bn da x0 pp n) (stp k p1 p2)) = 0 then (bn x0) else (andn (HT kd pl bn da x0 pp n) (stp k p1 p2))))), (8, .int (nI k)), (5, .int (nI (HT kd pl bn da x0 pp n))), (6, .int (nI (bn x0))), (0, .ref (x 0)), (1, .int (nI p1)), (2, .int (nI p2))] dX11_ears_176 (by decide) rfl ?_
                      refine g_iincN hC (q := 4) 1 [(8, .int (nI (k + 1))), (7, .int (nI (bs (eBC kd pl bn da x0 pp n p1 p2) (k + 1)))), (11, .int (nI (if (andn (HT kd pl bn da x0 pp n) (stp (k ^^^ 2) p1 p2)) = 0 then (bn x0) else (andn (HT kd pl bn da x0 pp n) (stp (k ^^^ 2) p1 p2))))), (10, .int (nI (if (andn (HT kd pl bn da x0 pp n) (stp (k ^^^ 1) p1 p2)) = 0 then (bn x0) else (andn (HT kd pl bn da x0 pp n) (stp (k ^^^ 1) p1 p2))))), (9, .int (nI (if (andn (HT kd pl bn da x0 pp n) (stp k p1 p2)) = 0 then (bn x0) else (andn (HT kd pl bn da x0 pp n) (stp k p1 p2))))), (5, .int (nI (HT kd pl bn da x0 pp n))), (6, .int (nI (bn x0))), (0, .ref (x 0)), (1, .int (nI p1)), (2, .int (nI p2))] dX11_ears_178 rfl rfl (by decide) rfl ?_
                      refine g_goto (tgt := 72) hC dX11_ears_181 (by decide) ?_
                      refine g_lv (lv' := [(8, .int (nI (k + 1))), (7, .int (nI (bs (eBC kd pl bn da x0 pp n p1 p2) (k + 1)))), (5, .int (nI (HT kd pl bn da x0 pp n))), (6, .int (nI (bn x0))), (0, .ref (x 0)), (1, .int (nI p1)), (2, .int (nI p2))]) [0, 1, 5, 6, 7, 8, 9] rfl ?_
                      exact ih_72 (k + 1) (by omega) (by omega)
            refine g_lv (lv' := [(8, .int (nI 0)), (7, .int (nI 0)), (5, .int (nI (HT kd pl bn da x0 pp n))), (6, .int (nI (bn x0))), (0, .ref (x 0)), (1, .int (nI p1)), (2, .int (nI p2))]) [0, 1, 3, 2, 4, 5, 6] rfl ?_
            refine g_lve (lv' := [(8, .int (nI 0)), (7, .int (nI (bs (eBC kd pl bn da x0 pp n p1 p2) 0))), (5, .int (nI (HT kd pl bn da x0 pp n))), (6, .int (nI (bn x0))), (0, .ref (x 0)), (1, .int (nI p1)), (2, .int (nI p2))]) (rfl) ?_
            exact L_72 ((4 - 0) + 1) 0 (by omega) (Nat.lt_succ_self _)
          · exact Bool.noConfusion ((inB_ok (by omega) (by omega)).symm.trans h_36)
set_option maxHeartbeats 600000 in
set_option maxRecDepth 100000 in
theorem f_X11_ears_bad (l : Launch) (E : Ew) (x : Nat → Nat) (h : Nat → Nat) (dr : Nat → Nat) (da : Int32) (de : Int32) (no : Int32) (pa : Int32) (n : Nat) (r : Nat → Int32) (p1 : Int32) (p2 : Int32) (x0 : Int32) (pp : Int32) (hn7 : n ≤ 7) (hb : (inB p1 n && inB p2 n && decide (¬ p1 = p2) && inB x0 n && inB pp 10) = false) : Fn l E 2 yX11_ears cX11_ears 12 (some .int) [.ref (x 0), .int p1, .int p2, .int x0, .int pp] [(x 0, .inr (11, oL x h dr)), (h 0, .inr (5, oH h da (nI n) de no pa)), (x 3, .inl (E.2.1 0, 3, .inl r))] (some (.int (-2))) [(x 0, .inr (11, oL x h dr)), (h 0, .inr (5, oH h da (nI n) de no pa)), (x 3, .inl (E.2.1 0, 3, .inl (upd r 0 (r 0 + nI 1))))] := by
  refine fn_I (by decide) (Nat.le_of_ble_eq_true rfl) rfl ?_
  intro K hC hR
  show G K E 12 [(x 0, .inr (11, oL x h dr)), (h 0, .inr (5, oH h da (nI n) de no pa)), (x 3, .inl (E.2.1 0, 3, .inl r))] [(0, .ref (x 0)), (1, .int p1), (2, .int p2), (3, .int x0), (4, .int pp)] 0 []
  refine g_aload_n hC dX11_ears_0 rfl 0 rfl ?_
  refine g_iload_n hC dX11_ears_1 rfl 1 rfl ?_
  refine g_callV hC (f_X11_isThere (kl K) E x h dr da de no pa n p1 (by omega)) wX11_isThere m2_156 dX11_ears_2 [0, 1] [(x 0, .inr (11, oL x h dr)), (h 0, .inr (5, oH h da (nI n) de no pa)), (x 3, .inl (E.2.1 0, 3, .inl r))] 0 11 rfl rfl (by decide) rfl (Nat.le_of_ble_eq_true rfl) rfl rfl rfl rfl rfl ?_
  refine g_if_eqB (tgt := 39) hC dX11_ears_5 (by decide) (fun h_5 => ?_) (fun h_5 => ?_)
  · refine g_aload_n hC dX11_ears_39 rfl 0 rfl ?_
    refine g_bipush (v := (-2)) hC dX11_ears_40 (by decide) ?_
    refine g_callV hC (f_X11_refuse_bad (kl K) E x h dr r) wX11_refuse m2_16 dX11_ears_42 [0, 2] [(x 0, .inr (11, oL x h dr)), (h 0, .inr (5, oH h da (nI n) de no pa)), (x 3, .inl (E.2.1 0, 3, .inl (upd r 0 (r 0 + nI 1))))] 0 11 rfl rfl (by decide) rfl (Nat.le_of_ble_eq_true rfl) rfl rfl rfl rfl rfl ?_
    exact g_val (rfl) (g_ws (rfl) (hR _ _ dX11_ears_45))
  · refine g_aload_n hC dX11_ears_8 rfl 0 rfl ?_
    refine g_iload_n hC dX11_ears_9 rfl 2 rfl ?_
    refine g_callV hC (f_X11_isThere (kl K) E x h dr da de no pa n p2 (by omega)) wX11_isThere m2_156 dX11_ears_10 [0, 1] [(x 0, .inr (11, oL x h dr)), (h 0, .inr (5, oH h da (nI n) de no pa)), (x 3, .inl (E.2.1 0, 3, .inl r))] 0 11 rfl rfl (by decide) rfl (Nat.le_of_ble_eq_true rfl) rfl rfl rfl rfl rfl ?_
    refine g_if_eqB (tgt := 39) hC dX11_ears_13 (by decide) (fun h_13 => ?_) (fun h_13 => ?_)
    · refine g_aload_n hC dX11_ears_39 rfl 0 rfl ?_
      refine g_bipush (v := (-2)) hC dX11_ears_40 (by decide) ?_
      refine g_callV hC (f_X11_refuse_bad (kl K) E x h dr r) wX11_refuse m2_16 dX11_ears_42 [0, 2] [(x 0, .inr (11, oL x h dr)), (h 0, .inr (5, oH h da (nI n) de no pa)), (x 3, .inl (E.2.1 0, 3, .inl (upd r 0 (r 0 + nI 1))))] 0 11 rfl rfl (by decide) rfl (Nat.le_of_ble_eq_true rfl) rfl rfl rfl rfl rfl ?_
      exact g_val (rfl) (g_ws (rfl) (hR _ _ dX11_ears_45))
    · refine g_iload_n hC dX11_ears_16 rfl 1 rfl ?_
      refine g_iload_n hC dX11_ears_17 rfl 2 rfl ?_
      refine g_icmp_eq (tgt := 39) hC dX11_ears_18 (by decide) (fun h_18 => ?_) (fun h_18 => ?_)
      · refine g_aload_n hC dX11_ears_39 rfl 0 rfl ?_
        refine g_bipush (v := (-2)) hC dX11_ears_40 (by decide) ?_
        refine g_callV hC (f_X11_refuse_bad (kl K) E x h dr r) wX11_refuse m2_16 dX11_ears_42 [0, 2] [(x 0, .inr (11, oL x h dr)), (h 0, .inr (5, oH h da (nI n) de no pa)), (x 3, .inl (E.2.1 0, 3, .inl (upd r 0 (r 0 + nI 1))))] 0 11 rfl rfl (by decide) rfl (Nat.le_of_ble_eq_true rfl) rfl rfl rfl rfl rfl ?_
        exact g_val (rfl) (g_ws (rfl) (hR _ _ dX11_ears_45))
      · refine g_aload_n hC dX11_ears_21 rfl 0 rfl ?_
        refine g_iload_n hC dX11_ears_22 rfl 3 rfl ?_
        refine g_callV hC (f_X11_isThere (kl K) E x h dr da de no pa n x0 (by omega)) wX11_isThere m2_156 dX11_ears_23 [0, 1] [(x 0, .inr (11, oL x h dr)), (h 0, .inr (5, oH h da (nI n) de no pa)), (x 3, .inl (E.2.1 0, 3, .inl r))] 0 11 rfl rfl (by decide) rfl (Nat.le_of_ble_eq_true rfl) rfl rfl rfl rfl rfl ?_
        refine g_if_eqB (tgt := 39) hC dX11_ears_26 (by decide) (fun h_26 => ?_) (fun h_26 => ?_)
        · refine g_aload_n hC dX11_ears_39 rfl 0 rfl ?_
          refine g_bipush (v := (-2)) hC dX11_ears_40 (by decide) ?_
          refine g_callV hC (f_X11_refuse_bad (kl K) E x h dr r) wX11_refuse m2_16 dX11_ears_42 [0, 2] [(x 0, .inr (11, oL x h dr)), (h 0, .inr (5, oH h da (nI n) de no pa)), (x 3, .inl (E.2.1 0, 3, .inl (upd r 0 (r 0 + nI 1))))] 0 11 rfl rfl (by decide) rfl (Nat.le_of_ble_eq_true rfl) rfl rfl rfl rfl rfl ?_
          exact g_val (rfl) (g_ws (rfl) (hR _ _ dX11_ears_45))
        · refine g_iload hC dX11_ears_29 4 rfl ?_
          refine g_bipush (v := (nI 10)) hC dX11_ears_31 (by decide) ?_
          refine g_callS hC (f_X11_within (kl K) E pp 10 (by omega)) wX11_within m2_13 dX11_ears_33 [] [(x 0, .inr (11, oL x h dr)), (h 0, .inr (5, oH h da (nI n) de no pa)), (x 3, .inl (E.2.1 0, 3, .inl r))] (by decide) rfl (Nat.le_of_ble_eq_true rfl) rfl rfl rfl rfl rfl ?_
          refine g_if_neB (tgt := 46) hC dX11_ears_36 (by decide) (fun h_36 => ?_) (fun h_36 => ?_)
          · exact absurd hb (by simp [h_5, h_13, h_18, h_26, h_36])
          · refine g_aload_n hC dX11_ears_39 rfl 0 rfl ?_
            refine g_bipush (v := (-2)) hC dX11_ears_40 (by decide) ?_
            refine g_callV hC (f_X11_refuse_bad (kl K) E x h dr r) wX11_refuse m2_16 dX11_ears_42 [0, 2] [(x 0, .inr (11, oL x h dr)), (h 0, .inr (5, oH h da (nI n) de no pa)), (x 3, .inl (E.2.1 0, 3, .inl (upd r 0 (r 0 + nI 1))))] 0 11 rfl rfl (by decide) rfl (Nat.le_of_ble_eq_true rfl) rfl rfl rfl rfl rfl ?_
            exact g_val (rfl) (g_ws (rfl) (hR _ _ dX11_ears_45))
set_option maxHeartbeats 600000 in
set_option maxRecDepth 100000 in
theorem f_X11_fits (l : Launch) (E : Ew) (x : Nat → Nat) (h : Nat → Nat) (dr : Nat → Nat) (da : Int32) (pe : Int32) (de : Int32) (pa : Int32) (v : Nat) (nt : Nat → Nat) (p : Nat) (q0 : Nat) (q1 : Nat) (hv : v ≤ 6) (hnt : ∀ k, k < v → nt (k * 5) < 7 ∧ nt (k * 5 + 1) < 10 ∧ nt (k * 5 + 2) < 100 ∧ nt (k * 5 + 3) < 2 ∧ nt (k * 5 + 4) < 2) (hp : p < 7) (hq0 : q0 < 6) (hq1 : q1 < 10) : Fn l E 4 yX11_fits cX11_fits 8 (some .boolean) [.ref (x 0), .int (nI p), .int (nI q0), .int (nI q1)] [(x 0, .inr (11, oL x h dr)), (x 7, .inr (6, oG x)), (x 8, .inl (E.2.1 4, 6, .inr (.inr (.inr (.inr (fun j => some (x (14 + j)))))))), (x 14, .inr (7, [])), (x 15, .inr (0, [])), (x 16, .inr (3, [])), (x 17, .inr (1, [])), (x 18, .inr (9, [])), (x 19, .inr (2, [])), (h 0, .inr (5, oH h da pe de (nI v) pa)), (h 6, .inl (E.2.1 0, 30, .inl (nf nt)))] (some (.int (bI (arC nt p q0 q1 v)))) [(x 0, .inr (11, oL x h dr)), (x 7, .inr (6, oG x)), (x 8, .inl (E.2.1 4, 6, .inr (.inr (.inr (.inr (fun j => some (x (14 + j)))))))), (x 14, .inr (7, [])), (x 15, .inr (0, [])), (x 16, .inr (3, [])), (x 17, .inr (1, [])), (x 18, .inr (9, [])), (x 19, .inr (2, [])), (h 0, .inr (5, oH h da pe de (nI v) pa)), (h 6, .inl (E.2.1 0, 30, .inl (nf nt)))] := by
  refine fn_Z (by decide) (Nat.le_of_ble_eq_true rfl) rfl (nar_bI _) ?_
  intro K hC hR
  show G K E 8 [(x 0, .inr (11, oL x h dr)), (x 7, .inr (6, oG x)), (x 8, .inl (E.2.1 4, 6, .inr (.inr (.inr (.inr (fun j => some (x (14 + j)))))))), (x 14, .inr (7, [])), (x 15, .inr (0, [])), (x 16, .inr (3, [])), (x 17, .inr (1, [])), (x 18, .inr (9, [])), (x 19, .inr (2, [])), (h 0, .inr (5, oH h da pe de (nI v) pa)), (h 6, .inl (E.2.1 0, 30, .inl (nf nt)))] [(0, .ref (x 0)), (1, .int (nI p)), (2, .int (nI q0)), (3, .int (nI q1))] 0 []
  refine g_iconst (v := (nI 0)) hC dX11_fits_0 (by decide) ?_
  refine g_istore hC [(4, .int (nI 0)), (0, .ref (x 0)), (1, .int (nI p)), (2, .int (nI q0)), (3, .int (nI q1))] dX11_fits_1 (by decide) rfl ?_
  have L_3 : ∀ (fu : Nat) (k : Nat) (hk : k ≤ v) (hf : arC nt p q0 q1 k = true), v - k < fu → G K E 8 [(x 0, .inr (11, oL x h dr)), (x 7, .inr (6, oG x)), (x 8, .inl (E.2.1 4, 6, .inr (.inr (.inr (.inr (fun j => some (x (14 + j)))))))), (x 14, .inr (7, [])), (x 15, .inr (0, [])), (x 16, .inr (3, [])), (x 17, .inr (1, [])), (x 18, .inr (9, [])), (x 19, .inr (2, [])), (h 0, .inr (5, oH h da pe de (nI v) pa)), (h 6, .inl (E.2.1 0, 30, .inl (nf nt)))] [(4, .int (nI k)), (0, .ref (x 0)), (1, .int (nI p)), (2, .int (nI q0)), (3, .int (nI q1))] 3 [] := by
    intro fu
    induction fu with
    | zero => intro k hk hf hm_3; exact absurd hm_3 (Nat.not_lt_zero _)
    | succ fu ih_3 =>
      intro k hk hf hm_3
      refine g_iload hC dX11_fits_3 0 rfl ?_
      refine g_aload_n hC dX11_fits_5 rfl 1 rfl ?_
      refine g_get hC 0 11 0 inX11 m1_221 dX11_fits_6 rfl rfl (by decide) rfl ?_
      refine g_get hC 9 5 8 inX5 m1_60 dX11_fits_9 rfl rfl (by decide) rfl ?_
      refine g_icmp_geN (tgt := 134) hC dX11_fits_12 (by decide) (by omega) (by omega) (fun h_12 => ?_) (fun h_12 => ?_)
      · refine g_iconst (v := (nI 1)) hC dX11_fits_134 (by decide) ?_
        exact g_val (bI_1e (by rw [show v = k by omega]; exact hf)) (g_ws (rfl) (hR _ _ dX11_fits_135))
      · have hnk := hnt k (by omega)
        have hfk : fr q1 (nt ((k * 5) + 1)) < 1000 := fr_1000 (by omega) (by omega)
        refine g_iload hC dX11_fits_15 0 rfl ?_
        refine g_iconst (v := (nI 5)) hC dX11_fits_17 (by decide) ?_
        refine g_imulN hC dX11_fits_18 ?_
        refine g_istore hC [(5, .int (nI (k * 5))), (4, .int (nI k)), (0, .ref (x 0)), (1, .int (nI p)), (2, .int (nI q0)), (3, .int (nI q1))] dX11_fits_19 (by decide) rfl ?_
        refine g_aload_n hC dX11_fits_21 rfl 2 rfl ?_
        refine g_get hC 0 11 0 inX11 m1_221 dX11_fits_22 rfl rfl (by decide) rfl ?_
        refine g_get hC 9 5 9 inX5 m1_62 dX11_fits_25 rfl rfl (by decide) rfl ?_
        refine g_iload hC dX11_fits_28 0 rfl ?_
        refine g_ialdN hC 10 dX11_fits_30 rfl (by decide) (by omega) ?_
        refine g_val (v' := .int (nI (nt (k * 5)))) rfl ?_
        refine g_iload_n hC dX11_fits_31 rfl 3 rfl ?_
        refine g_icmp_neN (tgt := 128) hC dX11_fits_32 (by decide) (by omega) (by omega) (fun h_32 => ?_) (fun h_32 => ?_)
        · refine g_iincN hC (q := 1) 1 [(4, .int (nI (k + 1))), (5, .int (nI (k * 5))), (0, .ref (x 0)), (1, .int (nI p)), (2, .int (nI q0)), (3, .int (nI q1))] dX11_fits_128 rfl rfl (by decide) rfl ?_
          refine g_goto (tgt := 3) hC dX11_fits_131 (by decide) ?_
          refine g_lv (lv' := [(4, .int (nI (k + 1))), (0, .ref (x 0)), (1, .int (nI p)), (2, .int (nI q0)), (3, .int (nI q1))]) [0, 2, 3, 4, 5] rfl ?_
          exact ih_3 (k + 1) (by omega) (arC_s hf (arN_0 h_32)) (by omega)
        · refine g_iload_n hC dX11_fits_35 rfl 5 rfl ?_
          refine g_aload_n hC dX11_fits_36 rfl 2 rfl ?_
          refine g_get hC 0 11 0 inX11 m1_221 dX11_fits_37 rfl rfl (by decide) rfl ?_
          refine g_get hC 9 5 9 inX5 m1_62 dX11_fits_40 rfl rfl (by decide) rfl ?_
          refine g_iload hC dX11_fits_43 0 rfl ?_
          refine g_iconst (v := (nI 1)) hC dX11_fits_45 (by decide) ?_
          refine g_iaddN hC dX11_fits_46 ?_
          refine g_ialdN hC 10 dX11_fits_47 rfl (by decide) (by omega) ?_
          refine g_val (v' := .int (nI (nt ((k * 5) + 1)))) rfl ?_
          refine g_isub hC dX11_fits_48 ?_
          refine g_mabs hC m3_121 m2_170 m1_20 m2_171 dX11_fits_49 (by decide) (Nat.le_of_ble_eq_true rfl) ?_
          refine g_val (v' := .int (nI (fr q1 (nt ((k * 5) + 1))))) (by rw [abs_fr (by omega) (by omega)]) ?_
          refine g_istore hC [(6, .int (nI (fr q1 (nt ((k * 5) + 1))))), (5, .int (nI (k * 5))), (4, .int (nI k)), (0, .ref (x 0)), (1, .int (nI p)), (2, .int (nI q0)), (3, .int (nI q1))] dX11_fits_52 (by decide) rfl ?_
          refine g_aload_n hC dX11_fits_54 rfl 3 rfl ?_
          refine g_get hC 0 11 6 inX11 m1_227 dX11_fits_55 rfl rfl (by decide) rfl ?_
          refine g_iload_n hC dX11_fits_58 rfl 5 rfl ?_
          refine g_iload hC dX11_fits_59 0 rfl ?_
          refine g_aload_n hC dX11_fits_61 rfl 3 rfl ?_
          refine g_get hC 0 11 0 inX11 m1_221 dX11_fits_62 rfl rfl (by decide) rfl ?_
          refine g_get hC 9 5 9 inX5 m1_62 dX11_fits_65 rfl rfl (by decide) rfl ?_
          refine g_iload hC dX11_fits_68 1 rfl ?_
          refine g_iconst (v := (nI 3)) hC dX11_fits_70 (by decide) ?_
          refine g_iaddN hC dX11_fits_71 ?_
          refine g_ialdN hC 10 dX11_fits_72 rfl (by decide) (by omega) ?_
          refine g_val (v' := .int (nI (nt ((k * 5) + 3)))) rfl ?_
          refine g_iconst (v := (nI 1)) hC dX11_fits_73 (by decide) ?_
          refine g_icmp_neN (tgt := 81) hC dX11_fits_74 (by decide) (by omega) (by omega) (fun h_74 => ?_) (fun h_74 => ?_)
          · refine g_iconst (v := (nI 0)) hC dX11_fits_81 (by decide) ?_
            refine g_iconst (v := (nI 0)) hC dX11_fits_82 (by decide) ?_
            refine g_aload_n hC dX11_fits_83 rfl 3 rfl ?_
            refine g_get hC 0 11 0 inX11 m1_221 dX11_fits_84 rfl rfl (by decide) rfl ?_
            refine g_get hC 9 5 9 inX5 m1_62 dX11_fits_87 rfl rfl (by decide) rfl ?_
            refine g_iload hC dX11_fits_90 1 rfl ?_
            refine g_iconst (v := (nI 2)) hC dX11_fits_92 (by decide) ?_
            refine g_iaddN hC dX11_fits_93 ?_
            refine g_ialdN hC 10 dX11_fits_94 rfl (by decide) (by omega) ?_
            refine g_val (v' := .int (nI (nt ((k * 5) + 2)))) rfl ?_
            refine g_callV hC (f_X6_turnsAs (kl K) E x q0 (fr q1 (nt ((k * 5) + 1))) false false (nI (nt ((k * 5) + 2))) (by omega) (by omega)) wX6_turnsAs m3_122 dX11_fits_95 [1, 2, 3, 4, 5, 6, 7, 8] [(x 0, .inr (11, oL x h dr)), (x 7, .inr (6, oG x)), (x 8, .inl (E.2.1 4, 6, .inr (.inr (.inr (.inr (fun j => some (x (14 + j)))))))), (x 14, .inr (7, [])), (x 15, .inr (0, [])), (x 16, .inr (3, [])), (x 17, .inr (1, [])), (x 18, .inr (9, [])), (x 19, .inr (2, [])), (h 0, .inr (5, oH h da pe de (nI v) pa)), (h 6, .inl (E.2.1 0, 30, .inl (nf nt)))] 1 6 rfl rfl (by decide) rfl (Nat.le_of_ble_eq_true rfl) rfl rfl rfl rfl rfl ?_
            refine g_istore hC [(7, .int (bI (tk q0 (fr q1 (nt ((k * 5) + 1))) false false (evn (nI (nt ((k * 5) + 2))))))), (6, .int (nI (fr q1 (nt ((k * 5) + 1))))), (5, .int (nI (k * 5))), (4, .int (nI k)), (0, .ref (x 0)), (1, .int (nI p)), (2, .int (nI q0)), (3, .int (nI q1))] dX11_fits_98 (by decide) rfl ?_
            refine g_iload hC dX11_fits_100 0 rfl ?_
            refine g_aload_n hC dX11_fits_102 rfl 4 rfl ?_
            refine g_get hC 0 11 0 inX11 m1_221 dX11_fits_103 rfl rfl (by decide) rfl ?_
            refine g_get hC 9 5 9 inX5 m1_62 dX11_fits_106 rfl rfl (by decide) rfl ?_
            refine g_iload hC dX11_fits_109 2 rfl ?_
            refine g_iconst (v := (nI 4)) hC dX11_fits_111 (by decide) ?_
            refine g_iaddN hC dX11_fits_112 ?_
            refine g_ialdN hC 10 dX11_fits_113 rfl (by decide) (by omega) ?_
            refine g_val (v' := .int (nI (nt ((k * 5) + 4)))) rfl ?_
            refine g_iconst (v := (nI 1)) hC dX11_fits_114 (by decide) ?_
            refine g_icmp_neN (tgt := 122) hC dX11_fits_115 (by decide) (by omega) (by omega) (fun h_115 => ?_) (fun h_115 => ?_)
            · refine g_iconst (v := (nI 0)) hC dX11_fits_122 (by decide) ?_
              refine g_icmp_eq (tgt := 128) hC dX11_fits_123 (by decide) (fun h_123 => ?_) (fun h_123 => ?_)
              · refine g_iincN hC (q := 3) 1 [(4, .int (nI (k + 1))), (7, .int (bI (tk q0 (fr q1 (nt ((k * 5) + 1))) false false (evn (nI (nt ((k * 5) + 2))))))), (6, .int (nI (fr q1 (nt ((k * 5) + 1))))), (5, .int (nI (k * 5))), (0, .ref (x 0)), (1, .int (nI p)), (2, .int (nI q0)), (3, .int (nI q1))] dX11_fits_128 rfl rfl (by decide) rfl ?_
                refine g_goto (tgt := 3) hC dX11_fits_131 (by decide) ?_
                refine g_lv (lv' := [(4, .int (nI (k + 1))), (0, .ref (x 0)), (1, .int (nI p)), (2, .int (nI q0)), (3, .int (nI q1))]) [0, 4, 5, 6, 7] rfl ?_
                exact ih_3 (k + 1) (by omega) (arC_s hf (by rw [arN_e h_32 (decide_eq_false h_74) (decide_eq_false h_115)]; exact be0 h_123)) (by omega)
              · refine g_iconst (v := (nI 0)) hC dX11_fits_126 (by decide) ?_
                exact g_val (bI_0e (arC_no (k := k) (by rw [arN_e h_32 (decide_eq_false h_74) (decide_eq_false h_115)]; exact ben0 h_123) (by omega))) (g_ws (rfl) (hR _ _ dX11_fits_127))
            · refine g_iconst (v := (nI 1)) hC dX11_fits_118 (by decide) ?_
              refine g_goto (tgt := 123) hC dX11_fits_119 (by decide) ?_
              refine g_icmp_eq (tgt := 128) hC dX11_fits_123 (by decide) (fun h_123 => ?_) (fun h_123 => ?_)
              · refine g_iincN hC (q := 3) 1 [(4, .int (nI (k + 1))), (7, .int (bI (tk q0 (fr q1 (nt ((k * 5) + 1))) false false (evn (nI (nt ((k * 5) + 2))))))), (6, .int (nI (fr q1 (nt ((k * 5) + 1))))), (5, .int (nI (k * 5))), (0, .ref (x 0)), (1, .int (nI p)), (2, .int (nI q0)), (3, .int (nI q1))] dX11_fits_128 rfl rfl (by decide) rfl ?_
                refine g_goto (tgt := 3) hC dX11_fits_131 (by decide) ?_
                refine g_lv (lv' := [(4, .int (nI (k + 1))), (0, .ref (x 0)), (1, .int (nI p)), (2, .int (nI q0)), (3, .int (nI q1))]) [0, 4, 5, 6, 7] rfl ?_
                exact ih_3 (k + 1) (by omega) (arC_s hf (by rw [arN_e h_32 (decide_eq_false h_74) (decide_eq_true h_115)]; exact be1 h_123)) (by omega)
              · refine g_iconst (v := (nI 0)) hC dX11_fits_126 (by decide) ?_
                exact g_val (bI_0e (arC_no (k := k) (by rw [arN_e h_32 (decide_eq_false h_74) (decide_eq_true h_115)]; exact ben1 h_123) (by omega))) (g_ws (rfl) (hR _ _ dX11_fits_127))
          · refine g_iconst (v := (nI 1)) hC dX11_fits_77 (by decide) ?_
            refine g_goto (tgt := 82) hC dX11_fits_78 (by decide) ?_
            refine g_iconst (v := (nI 0)) hC dX11_fits_82 (by decide) ?_
            refine g_aload_n hC dX11_fits_83 rfl 3 rfl ?_
            refine g_get hC 0 11 0 inX11 m1_221 dX11_fits_84 rfl rfl (by decide) rfl ?_
            refine g_get hC 9 5 9 inX5 m1_62 dX11_fits_87 rfl rfl (by decide) rfl ?_
            refine g_iload hC dX11_fits_90 1 rfl ?_
            refine g_iconst (v := (nI 2)) hC dX11_fits_92 (by decide) ?_
            refine g_iaddN hC dX11_fits_93 ?_
            refine g_ialdN hC 10 dX11_fits_94 rfl (by decide) (by omega) ?_
            refine g_val (v' := .int (nI (nt ((k * 5) + 2)))) rfl ?_
            refine g_callV hC (f_X6_turnsAs (kl K) E x q0 (fr q1 (nt ((k * 5) + 1))) true false (nI (nt ((k * 5) + 2))) (by omega) (by omega)) wX6_turnsAs m3_122 dX11_fits_95 [1, 2, 3, 4, 5, 6, 7, 8] [(x 0, .inr (11, oL x h dr)), (x 7, .inr (6, oG x)), (x 8, .inl (E.2.1 4, 6, .inr (.inr (.inr (.inr (fun j => some (x (14 + j)))))))), (x 14, .inr (7, [])), (x 15, .inr (0, [])), (x 16, .inr (3, [])), (x 17, .inr (1, [])), (x 18, .inr (9, [])), (x 19, .inr (2, [])), (h 0, .inr (5, oH h da pe de (nI v) pa)), (h 6, .inl (E.2.1 0, 30, .inl (nf nt)))] 1 6 rfl rfl (by decide) rfl (Nat.le_of_ble_eq_true rfl) rfl rfl rfl rfl rfl ?_
            refine g_istore hC [(7, .int (bI (tk q0 (fr q1 (nt ((k * 5) + 1))) true false (evn (nI (nt ((k * 5) + 2))))))), (6, .int (nI (fr q1 (nt ((k * 5) + 1))))), (5, .int (nI (k * 5))), (4, .int (nI k)), (0, .ref (x 0)), (1, .int (nI p)), (2, .int (nI q0)), (3, .int (nI q1))] dX11_fits_98 (by decide) rfl ?_
            refine g_iload hC dX11_fits_100 0 rfl ?_
            refine g_aload_n hC dX11_fits_102 rfl 4 rfl ?_
            refine g_get hC 0 11 0 inX11 m1_221 dX11_fits_103 rfl rfl (by decide) rfl ?_
            refine g_get hC 9 5 9 inX5 m1_62 dX11_fits_106 rfl rfl (by decide) rfl ?_
            refine g_iload hC dX11_fits_109 2 rfl ?_
            refine g_iconst (v := (nI 4)) hC dX11_fits_111 (by decide) ?_
            refine g_iaddN hC dX11_fits_112 ?_
            refine g_ialdN hC 10 dX11_fits_113 rfl (by decide) (by omega) ?_
            refine g_val (v' := .int (nI (nt ((k * 5) + 4)))) rfl ?_
            refine g_iconst (v := (nI 1)) hC dX11_fits_114 (by decide) ?_
            refine g_icmp_neN (tgt := 122) hC dX11_fits_115 (by decide) (by omega) (by omega) (fun h_115 => ?_) (fun h_115 => ?_)
            · refine g_iconst (v := (nI 0)) hC dX11_fits_122 (by decide) ?_
              refine g_icmp_eq (tgt := 128) hC dX11_fits_123 (by decide) (fun h_123 => ?_) (fun h_123 => ?_)
              · refine g_iincN hC (q := 3) 1 [(4, .int (nI (k + 1))), (7, .int (bI (tk q0 (fr q1 (nt ((k * 5) + 1))) true false (evn (nI (nt ((k * 5) + 2))))))), (6, .int (nI (fr q1 (nt ((k * 5) + 1))))), (5, .int (nI (k * 5))), (0, .ref (x 0)), (1, .int (nI p)), (2, .int (nI q0)), (3, .int (nI q1))] dX11_fits_128 rfl rfl (by decide) rfl ?_
                refine g_goto (tgt := 3) hC dX11_fits_131 (by decide) ?_
                refine g_lv (lv' := [(4, .int (nI (k + 1))), (0, .ref (x 0)), (1, .int (nI p)), (2, .int (nI q0)), (3, .int (nI q1))]) [0, 4, 5, 6, 7] rfl ?_
                exact ih_3 (k + 1) (by omega) (arC_s hf (by rw [arN_e h_32 (decide_eq_true h_74) (decide_eq_false h_115)]; exact be0 h_123)) (by omega)
              · refine g_iconst (v := (nI 0)) hC dX11_fits_126 (by decide) ?_
                exact g_val (bI_0e (arC_no (k := k) (by rw [arN_e h_32 (decide_eq_true h_74) (decide_eq_false h_115)]; exact ben0 h_123) (by omega))) (g_ws (rfl) (hR _ _ dX11_fits_127))
            · refine g_iconst (v := (nI 1)) hC dX11_fits_118 (by decide) ?_
              refine g_goto (tgt := 123) hC dX11_fits_119 (by decide) ?_
              refine g_icmp_eq (tgt := 128) hC dX11_fits_123 (by decide) (fun h_123 => ?_) (fun h_123 => ?_)
              · refine g_iincN hC (q := 3) 1 [(4, .int (nI (k + 1))), (7, .int (bI (tk q0 (fr q1 (nt ((k * 5) + 1))) true false (evn (nI (nt ((k * 5) + 2))))))), (6, .int (nI (fr q1 (nt ((k * 5) + 1))))), (5, .int (nI (k * 5))), (0, .ref (x 0)), (1, .int (nI p)), (2, .int (nI q0)), (3, .int (nI q1))] dX11_fits_128 rfl rfl (by decide) rfl ?_
                refine g_goto (tgt := 3) hC dX11_fits_131 (by decide) ?_
                refine g_lv (lv' := [(4, .int (nI (k + 1))), (0, .ref (x 0)), (1, .int (nI p)), (2, .int (nI q0)), (3, .int (nI q1))]) [0, 4, 5, 6, 7] rfl ?_
                exact ih_3 (k + 1) (by omega) (arC_s hf (by rw [arN_e h_32 (decide_eq_true h_74) (decide_eq_true h_115)]; exact be1 h_123)) (by omega)
              · refine g_iconst (v := (nI 0)) hC dX11_fits_126 (by decide) ?_
                exact g_val (bI_0e (arC_no (k := k) (by rw [arN_e h_32 (decide_eq_true h_74) (decide_eq_true h_115)]; exact ben1 h_123) (by omega))) (g_ws (rfl) (hR _ _ dX11_fits_127))
  refine g_lv (lv' := [(4, .int (nI 0)), (0, .ref (x 0)), (1, .int (nI p)), (2, .int (nI q0)), (3, .int (nI q1))]) [0, 1, 2, 3, 4] rfl ?_
  exact L_3 ((v - 0) + 1) 0 (by omega) (rfl) (Nat.lt_succ_self _)
set_option maxHeartbeats 600000 in
set_option maxRecDepth 100000 in
theorem f_X11_placesThatFit (l : Launch) (E : Ew) (x : Nat → Nat) (h : Nat → Nat) (dr : Nat → Nat) (da : Int32) (pe : Int32) (de : Int32) (pa : Int32) (v : Nat) (nt : Nat → Nat) (kd : Nat → Nat) (p : Nat) (hv : v ≤ 6) (hnt : ∀ k, k < v → nt (k * 5) < 7 ∧ nt (k * 5 + 1) < 10 ∧ nt (k * 5 + 2) < 100 ∧ nt (k * 5 + 3) < 2 ∧ nt (k * 5 + 4) < 2) (hp : p < 7) (hkp : kd p < 6) : Fn l E 5 yX11_placesThatFit cX11_placesThatFit 4 (some .int) [.ref (x 0), .int (nI p)] [(x 0, .inr (11, oL x h dr)), (x 7, .inr (6, oG x)), (x 8, .inl (E.2.1 4, 6, .inr (.inr (.inr (.inr (fun j => some (x (14 + j)))))))), (x 14, .inr (7, [])), (x 15, .inr (0, [])), (x 16, .inr (3, [])), (x 17, .inr (1, [])), (x 18, .inr (9, [])), (x 19, .inr (2, [])), (h 0, .inr (5, oH h da pe de (nI v) pa)), (h 6, .inl (E.2.1 0, 30, .inl (nf nt))), (h 1, .inl (E.2.1 0, 7, .inl (nf kd)))] (some (.int (nI (plC nt kd p v)))) [(x 0, .inr (11, oL x h dr)), (x 7, .inr (6, oG x)), (x 8, .inl (E.2.1 4, 6, .inr (.inr (.inr (.inr (fun j => some (x (14 + j)))))))), (x 14, .inr (7, [])), (x 15, .inr (0, [])), (x 16, .inr (3, [])), (x 17, .inr (1, [])), (x 18, .inr (9, [])), (x 19, .inr (2, [])), (h 0, .inr (5, oH h da pe de (nI v) pa)), (h 6, .inl (E.2.1 0, 30, .inl (nf nt))), (h 1, .inl (E.2.1 0, 7, .inl (nf kd)))] := by
  refine fn_I (by decide) (Nat.le_of_ble_eq_true rfl) rfl ?_
  intro K hC hR
  show G K E 4 [(x 0, .inr (11, oL x h dr)), (x 7, .inr (6, oG x)), (x 8, .inl (E.2.1 4, 6, .inr (.inr (.inr (.inr (fun j => some (x (14 + j)))))))), (x 14, .inr (7, [])), (x 15, .inr (0, [])), (x 16, .inr (3, [])), (x 17, .inr (1, [])), (x 18, .inr (9, [])), (x 19, .inr (2, [])), (h 0, .inr (5, oH h da pe de (nI v) pa)), (h 6, .inl (E.2.1 0, 30, .inl (nf nt))), (h 1, .inl (E.2.1 0, 7, .inl (nf kd)))] [(0, .ref (x 0)), (1, .int (nI p))] 0 []
  refine g_iconst (v := (nI 0)) hC dX11_placesThatFit_0 (by decide) ?_
  refine g_istore_n hC [(2, .int (nI 0)), (0, .ref (x 0)), (1, .int (nI p))] dX11_placesThatFit_1 rfl (by decide) rfl ?_
  refine g_iconst (v := (nI 0)) hC dX11_placesThatFit_2 (by decide) ?_
  refine g_istore_n hC [(3, .int (nI 0)), (2, .int (nI 0)), (0, .ref (x 0)), (1, .int (nI p))] dX11_placesThatFit_3 rfl (by decide) rfl ?_
  have L_4 : ∀ (fu : Nat) (k : Nat) (hk : k ≤ 10), 10 - k < fu → G K E 4 [(x 0, .inr (11, oL x h dr)), (x 7, .inr (6, oG x)), (x 8, .inl (E.2.1 4, 6, .inr (.inr (.inr (.inr (fun j => some (x (14 + j)))))))), (x 14, .inr (7, [])), (x 15, .inr (0, [])), (x 16, .inr (3, [])), (x 17, .inr (1, [])), (x 18, .inr (9, [])), (x 19, .inr (2, [])), (h 0, .inr (5, oH h da pe de (nI v) pa)), (h 6, .inl (E.2.1 0, 30, .inl (nf nt))), (h 1, .inl (E.2.1 0, 7, .inl (nf kd)))] [(3, .int (nI k)), (2, .int (nI (bs (fun q => arC nt p (kd p) q v) k))), (0, .ref (x 0)), (1, .int (nI p))] 4 [] := by
    intro fu
    induction fu with
    | zero => intro k hk hm_4; exact absurd hm_4 (Nat.not_lt_zero _)
    | succ fu ih_4 =>
      intro k hk hm_4
      refine g_iload_n hC dX11_placesThatFit_4 rfl 0 rfl ?_
      refine g_bipush (v := (nI 10)) hC dX11_placesThatFit_5 (by decide) ?_
      refine g_icmp_geN (tgt := 40) hC dX11_placesThatFit_7 (by decide) (by omega) (by omega) (fun h_7 => ?_) (fun h_7 => ?_)
      · refine g_iload_n hC dX11_placesThatFit_40 rfl 1 rfl ?_
        exact g_val (by rw [show k = 10 by omega]; rfl) (g_ws (rfl) (hR _ _ dX11_placesThatFit_41))
      · refine g_aload_n hC dX11_placesThatFit_10 rfl 2 rfl ?_
        refine g_iload_n hC dX11_placesThatFit_11 rfl 3 rfl ?_
        refine g_aload_n hC dX11_placesThatFit_12 rfl 2 rfl ?_
        refine g_get hC 0 11 0 inX11 m1_221 dX11_placesThatFit_13 rfl rfl (by decide) rfl ?_
        refine g_get hC 9 5 2 inX5 m1_46 dX11_placesThatFit_16 rfl rfl (by decide) rfl ?_
        refine g_iload_n hC dX11_placesThatFit_19 rfl 3 rfl ?_
        refine g_ialdN hC 11 dX11_placesThatFit_20 rfl (by decide) (by omega) ?_
        refine g_val (v' := .int (nI (kd p))) rfl ?_
        refine g_iload_n hC dX11_placesThatFit_21 rfl 0 rfl ?_
        refine g_callV hC (f_X11_fits (kl K) E x h dr da pe de pa v nt p (kd p) k (by omega) (hnt) (by omega) (by omega) (by omega)) wX11_fits m3_117 dX11_placesThatFit_22 [0, 1, 2, 3, 4, 5, 6, 7, 8, 9, 10] [(x 0, .inr (11, oL x h dr)), (x 7, .inr (6, oG x)), (x 8, .inl (E.2.1 4, 6, .inr (.inr (.inr (.inr (fun j => some (x (14 + j)))))))), (x 14, .inr (7, [])), (x 15, .inr (0, [])), (x 16, .inr (3, [])), (x 17, .inr (1, [])), (x 18, .inr (9, [])), (x 19, .inr (2, [])), (h 0, .inr (5, oH h da pe de (nI v) pa)), (h 6, .inl (E.2.1 0, 30, .inl (nf nt))), (h 1, .inl (E.2.1 0, 7, .inl (nf kd)))] 0 11 rfl rfl (by decide) rfl (Nat.le_of_ble_eq_true rfl) rfl rfl rfl rfl rfl ?_
        refine g_if_eqB (tgt := 34) hC dX11_placesThatFit_25 (by decide) (fun h_25 => ?_) (fun h_25 => ?_)
        · refine g_iincN hC (q := 0) 1 [(3, .int (nI (k + 1))), (2, .int (nI (bs (fun q => arC nt p (kd p) q v) k))), (0, .ref (x 0)), (1, .int (nI p))] dX11_placesThatFit_34 rfl rfl (by decide) rfl ?_
          refine g_goto (tgt := 4) hC dX11_placesThatFit_37 (by decide) ?_
          refine g_lv (lv' := [(3, .int (nI (k + 1))), (2, .int (nI (bs (fun q => arC nt p (kd p) q v) k))), (0, .ref (x 0)), (1, .int (nI p))]) [0, 1, 2, 3] rfl ?_
          refine g_lve (lv' := [(3, .int (nI (k + 1))), (2, .int (nI (bs (fun q => arC nt p (kd p) q v) (k + 1)))), (0, .ref (x 0)), (1, .int (nI p))]) (by rw [bs_no' (p := fun q => arC nt p (kd p) q v) h_25]) ?_
          exact ih_4 (k + 1) (by omega) (by omega)
        · refine g_iload_n hC dX11_placesThatFit_28 rfl 1 rfl ?_
          refine g_iconst (v := (nI 1)) hC dX11_placesThatFit_29 (by decide) ?_
          refine g_iload_n hC dX11_placesThatFit_30 rfl 0 rfl ?_
          refine g_ishl hC dX11_placesThatFit_31 ?_
          refine g_ior hC dX11_placesThatFit_32 ?_
          refine g_val (v' := .int (nI (bs (fun q => arC nt p (kd p) q v) (k + 1)))) (by rw [bs_yes (p := fun q => arC nt p (kd p) q v) (by omega) h_25]) ?_
          refine g_istore_n hC [(2, .int (nI (bs (fun q => arC nt p (kd p) q v) (k + 1)))), (3, .int (nI k)), (0, .ref (x 0)), (1, .int (nI p))] dX11_placesThatFit_33 rfl (by decide) rfl ?_
          refine g_iincN hC (q := 1) 1 [(3, .int (nI (k + 1))), (2, .int (nI (bs (fun q => arC nt p (kd p) q v) (k + 1)))), (0, .ref (x 0)), (1, .int (nI p))] dX11_placesThatFit_34 rfl rfl (by decide) rfl ?_
          refine g_goto (tgt := 4) hC dX11_placesThatFit_37 (by decide) ?_
          refine g_lv (lv' := [(3, .int (nI (k + 1))), (2, .int (nI (bs (fun q => arC nt p (kd p) q v) (k + 1)))), (0, .ref (x 0)), (1, .int (nI p))]) [0, 1, 2, 3] rfl ?_
          exact ih_4 (k + 1) (by omega) (by omega)
  refine g_lv (lv' := [(3, .int (nI 0)), (2, .int (nI 0)), (0, .ref (x 0)), (1, .int (nI p))]) [0, 1, 2, 3] rfl ?_
  refine g_lve (lv' := [(3, .int (nI 0)), (2, .int (nI (bs (fun q => arC nt p (kd p) q v) 0))), (0, .ref (x 0)), (1, .int (nI p))]) (rfl) ?_
  exact L_4 ((10 - 0) + 1) 0 (by omega) (Nat.lt_succ_self _)
set_option maxHeartbeats 600000 in
set_option maxRecDepth 100000 in
theorem f_X11_placesTurningAt (l : Launch) (E : Ew) (x : Nat → Nat) (h : Nat → Nat) (dr : Nat → Nat) (da : Int32) (pe : Int32) (de : Int32) (no : Int32) (pa : Int32) (kd : Nat → Nat) (p : Nat) (x0 : Nat) (hp : p < 7) (hkp : kd p < 6) (hx : x0 < 10) : Fn l E 4 yX11_placesTurningAt cX11_placesTurningAt 5 (some .int) [.ref (x 0), .int (nI p), .int (nI x0)] [(x 0, .inr (11, oL x h dr)), (x 7, .inr (6, oG x)), (x 8, .inl (E.2.1 4, 6, .inr (.inr (.inr (.inr (fun j => some (x (14 + j)))))))), (x 14, .inr (7, [])), (x 15, .inr (0, [])), (x 16, .inr (3, [])), (x 17, .inr (1, [])), (x 18, .inr (9, [])), (x 19, .inr (2, [])), (h 0, .inr (5, oH h da pe de no pa)), (h 1, .inl (E.2.1 0, 7, .inl (nf kd)))] (some (.int (nI (ptC kd da p x0)))) [(x 0, .inr (11, oL x h dr)), (x 7, .inr (6, oG x)), (x 8, .inl (E.2.1 4, 6, .inr (.inr (.inr (.inr (fun j => some (x (14 + j)))))))), (x 14, .inr (7, [])), (x 15, .inr (0, [])), (x 16, .inr (3, [])), (x 17, .inr (1, [])), (x 18, .inr (9, [])), (x 19, .inr (2, [])), (h 0, .inr (5, oH h da pe de no pa)), (h 1, .inl (E.2.1 0, 7, .inl (nf kd)))] := by
  refine fn_I (by decide) (Nat.le_of_ble_eq_true rfl) rfl ?_
  intro K hC hR
  show G K E 5 [(x 0, .inr (11, oL x h dr)), (x 7, .inr (6, oG x)), (x 8, .inl (E.2.1 4, 6, .inr (.inr (.inr (.inr (fun j => some (x (14 + j)))))))), (x 14, .inr (7, [])), (x 15, .inr (0, [])), (x 16, .inr (3, [])), (x 17, .inr (1, [])), (x 18, .inr (9, [])), (x 19, .inr (2, [])), (h 0, .inr (5, oH h da pe de no pa)), (h 1, .inl (E.2.1 0, 7, .inl (nf kd)))] [(0, .ref (x 0)), (1, .int (nI p)), (2, .int (nI x0))] 0 []
  refine g_iconst (v := (nI 0)) hC dX11_placesTurningAt_0 (by decide) ?_
  refine g_istore_n hC [(3, .int (nI 0)), (0, .ref (x 0)), (1, .int (nI p)), (2, .int (nI x0))] dX11_placesTurningAt_1 rfl (by decide) rfl ?_
  refine g_iconst (v := (nI 0)) hC dX11_placesTurningAt_2 (by decide) ?_
  refine g_istore hC [(4, .int (nI 0)), (3, .int (nI 0)), (0, .ref (x 0)), (1, .int (nI p)), (2, .int (nI x0))] dX11_placesTurningAt_3 (by decide) rfl ?_
  have L_5 : ∀ (fu : Nat) (k : Nat) (hk : k ≤ 10), 10 - k < fu → G K E 5 [(x 0, .inr (11, oL x h dr)), (x 7, .inr (6, oG x)), (x 8, .inl (E.2.1 4, 6, .inr (.inr (.inr (.inr (fun j => some (x (14 + j)))))))), (x 14, .inr (7, [])), (x 15, .inr (0, [])), (x 16, .inr (3, [])), (x 17, .inr (1, [])), (x 18, .inr (9, [])), (x 19, .inr (2, [])), (h 0, .inr (5, oH h da pe de no pa)), (h 1, .inl (E.2.1 0, 7, .inl (nf kd)))] [(4, .int (nI k)), (3, .int (nI (bs (fun q => tk (kd p) (fr q x0) false false (evn da)) k))), (0, .ref (x 0)), (1, .int (nI p)), (2, .int (nI x0))] 5 [] := by
    intro fu
    induction fu with
    | zero => intro k hk hm_5; exact absurd hm_5 (Nat.not_lt_zero _)
    | succ fu ih_5 =>
      intro k hk hm_5
      refine g_iload hC dX11_placesTurningAt_5 0 rfl ?_
      refine g_bipush (v := (nI 10)) hC dX11_placesTurningAt_7 (by decide) ?_
      refine g_icmp_geN (tgt := 60) hC dX11_placesTurningAt_9 (by decide) (by omega) (by omega) (fun h_9 => ?_) (fun h_9 => ?_)
      · refine g_iload_n hC dX11_placesTurningAt_60 rfl 1 rfl ?_
        exact g_val (by rw [show k = 10 by omega]; rfl) (g_ws (rfl) (hR _ _ dX11_placesTurningAt_61))
      · refine g_aload_n hC dX11_placesTurningAt_12 rfl 2 rfl ?_
        refine g_get hC 0 11 6 inX11 m1_227 dX11_placesTurningAt_13 rfl rfl (by decide) rfl ?_
        refine g_aload_n hC dX11_placesTurningAt_16 rfl 2 rfl ?_
        refine g_get hC 0 11 0 inX11 m1_221 dX11_placesTurningAt_17 rfl rfl (by decide) rfl ?_
        refine g_get hC 9 5 2 inX5 m1_46 dX11_placesTurningAt_20 rfl rfl (by decide) rfl ?_
        refine g_iload_n hC dX11_placesTurningAt_23 rfl 3 rfl ?_
        refine g_ialdN hC 10 dX11_placesTurningAt_24 rfl (by decide) (by omega) ?_
        refine g_val (v' := .int (nI (kd p))) rfl ?_
        refine g_iload hC dX11_placesTurningAt_25 0 rfl ?_
        refine g_iload_n hC dX11_placesTurningAt_27 rfl 4 rfl ?_
        refine g_isub hC dX11_placesTurningAt_28 ?_
        refine g_mabs hC m3_121 m2_170 m1_20 m2_171 dX11_placesTurningAt_29 (by decide) (Nat.le_of_ble_eq_true rfl) ?_
        refine g_val (v' := .int (nI (fr k x0))) (by rw [abs_fr (by omega) (by omega)]) ?_
        refine g_iconst (v := (nI 0)) hC dX11_placesTurningAt_32 (by decide) ?_
        refine g_iconst (v := (nI 0)) hC dX11_placesTurningAt_33 (by decide) ?_
        refine g_aload_n hC dX11_placesTurningAt_34 rfl 2 rfl ?_
        refine g_get hC 0 11 0 inX11 m1_221 dX11_placesTurningAt_35 rfl rfl (by decide) rfl ?_
        refine g_get hC 9 5 0 inX5 m1_38 dX11_placesTurningAt_38 rfl rfl (by decide) rfl ?_
        refine g_callV hC (f_X6_turnsAs (kl K) E x (kd p) (fr k x0) false false da (by omega) (fr_1000 (by omega) (by omega))) wX6_turnsAs m3_122 dX11_placesTurningAt_41 [1, 2, 3, 4, 5, 6, 7, 8] [(x 0, .inr (11, oL x h dr)), (x 7, .inr (6, oG x)), (x 8, .inl (E.2.1 4, 6, .inr (.inr (.inr (.inr (fun j => some (x (14 + j)))))))), (x 14, .inr (7, [])), (x 15, .inr (0, [])), (x 16, .inr (3, [])), (x 17, .inr (1, [])), (x 18, .inr (9, [])), (x 19, .inr (2, [])), (h 0, .inr (5, oH h da pe de no pa)), (h 1, .inl (E.2.1 0, 7, .inl (nf kd)))] 1 6 rfl rfl (by decide) rfl (Nat.le_of_ble_eq_true rfl) rfl rfl rfl rfl rfl ?_
        refine g_if_eqB (tgt := 54) hC dX11_placesTurningAt_44 (by decide) (fun h_44 => ?_) (fun h_44 => ?_)
        · refine g_iincN hC (q := 0) 1 [(4, .int (nI (k + 1))), (3, .int (nI (bs (fun q => tk (kd p) (fr q x0) false false (evn da)) k))), (0, .ref (x 0)), (1, .int (nI p)), (2, .int (nI x0))] dX11_placesTurningAt_54 rfl rfl (by decide) rfl ?_
          refine g_goto (tgt := 5) hC dX11_placesTurningAt_57 (by decide) ?_
          refine g_lv (lv' := [(4, .int (nI (k + 1))), (3, .int (nI (bs (fun q => tk (kd p) (fr q x0) false false (evn da)) k))), (0, .ref (x 0)), (1, .int (nI p)), (2, .int (nI x0))]) [0, 1, 2, 3, 4] rfl ?_
          refine g_lve (lv' := [(4, .int (nI (k + 1))), (3, .int (nI (bs (fun q => tk (kd p) (fr q x0) false false (evn da)) (k + 1)))), (0, .ref (x 0)), (1, .int (nI p)), (2, .int (nI x0))]) (by rw [bs_no' (p := fun q => tk (kd p) (fr q x0) false false (evn da)) h_44]) ?_
          exact ih_5 (k + 1) (by omega) (by omega)
        · refine g_iload_n hC dX11_placesTurningAt_47 rfl 1 rfl ?_
          refine g_iconst (v := (nI 1)) hC dX11_placesTurningAt_48 (by decide) ?_
          refine g_iload hC dX11_placesTurningAt_49 0 rfl ?_
          refine g_ishl hC dX11_placesTurningAt_51 ?_
          refine g_ior hC dX11_placesTurningAt_52 ?_
          refine g_val (v' := .int (nI (bs (fun q => tk (kd p) (fr q x0) false false (evn da)) (k + 1)))) (by rw [bs_yes (p := fun q => tk (kd p) (fr q x0) false false (evn da)) (by omega) h_44]) ?_
          refine g_istore_n hC [(3, .int (nI (bs (fun q => tk (kd p) (fr q x0) false false (evn da)) (k + 1)))), (4, .int (nI k)), (0, .ref (x 0)), (1, .int (nI p)), (2, .int (nI x0))] dX11_placesTurningAt_53 rfl (by decide) rfl ?_
          refine g_iincN hC (q := 1) 1 [(4, .int (nI (k + 1))), (3, .int (nI (bs (fun q => tk (kd p) (fr q x0) false false (evn da)) (k + 1)))), (0, .ref (x 0)), (1, .int (nI p)), (2, .int (nI x0))] dX11_placesTurningAt_54 rfl rfl (by decide) rfl ?_
          refine g_goto (tgt := 5) hC dX11_placesTurningAt_57 (by decide) ?_
          refine g_lv (lv' := [(4, .int (nI (k + 1))), (3, .int (nI (bs (fun q => tk (kd p) (fr q x0) false false (evn da)) (k + 1)))), (0, .ref (x 0)), (1, .int (nI p)), (2, .int (nI x0))]) [0, 1, 2, 3, 4] rfl ?_
          exact ih_5 (k + 1) (by omega) (by omega)
  refine g_lv (lv' := [(4, .int (nI 0)), (3, .int (nI 0)), (0, .ref (x 0)), (1, .int (nI p)), (2, .int (nI x0))]) [0, 1, 2, 3, 4] rfl ?_
  refine g_lve (lv' := [(4, .int (nI 0)), (3, .int (nI (bs (fun q => tk (kd p) (fr q x0) false false (evn da)) 0))), (0, .ref (x 0)), (1, .int (nI p)), (2, .int (nI x0))]) (rfl) ?_
  exact L_5 ((10 - 0) + 1) 0 (by omega) (Nat.lt_succ_self _)
set_option maxHeartbeats 600000 in
set_option maxRecDepth 100000 in
theorem f_X11_is_ok (l : Launch) (E : Ew) (x : Nat → Nat) (h : Nat → Nat) (dr : Nat → Nat) (da : Int32) (de : Int32) (pa : Int32) (n : Nat) (v : Nat) (nt : Nat → Nat) (pl : Nat → Nat) (p : Nat) (hn7 : n ≤ 7) (hv : v ≤ 6) (hnt : ∀ k, k < v → nt (k * 5) < 7 ∧ nt (k * 5 + 1) < 10 ∧ nt (k * 5 + 2) < 100 ∧ nt (k * 5 + 3) < 2 ∧ nt (k * 5 + 4) < 2) (hp : p < n) (hpp : pl p < 10) : Fn l E 5 yX11_is cX11_is 4 (some .int) [.ref (x 0), .int (nI p)] [(x 0, .inr (11, oL x h dr)), (x 7, .inr (6, oG x)), (x 8, .inl (E.2.1 4, 6, .inr (.inr (.inr (.inr (fun j => some (x (14 + j)))))))), (x 14, .inr (7, [])), (x 15, .inr (0, [])), (x 16, .inr (3, [])), (x 17, .inr (1, [])), (x 18, .inr (9, [])), (x 19, .inr (2, [])), (h 0, .inr (5, oH h da (nI n) de (nI v) pa)), (h 6, .inl (E.2.1 0, 30, .inl (nf nt))), (h 2, .inl (E.2.1 0, 7, .inl (nf pl)))] (some (.int (nI (isC nt pl p v)))) [(x 0, .inr (11, oL x h dr)), (x 7, .inr (6, oG x)), (x 8, .inl (E.2.1 4, 6, .inr (.inr (.inr (.inr (fun j => some (x (14 + j)))))))), (x 14, .inr (7, [])), (x 15, .inr (0, [])), (x 16, .inr (3, [])), (x 17, .inr (1, [])), (x 18, .inr (9, [])), (x 19, .inr (2, [])), (h 0, .inr (5, oH h da (nI n) de (nI v) pa)), (h 6, .inl (E.2.1 0, 30, .inl (nf nt))), (h 2, .inl (E.2.1 0, 7, .inl (nf pl)))] := by
  refine fn_I (by decide) (Nat.le_of_ble_eq_true rfl) rfl ?_
  intro K hC hR
  show G K E 4 [(x 0, .inr (11, oL x h dr)), (x 7, .inr (6, oG x)), (x 8, .inl (E.2.1 4, 6, .inr (.inr (.inr (.inr (fun j => some (x (14 + j)))))))), (x 14, .inr (7, [])), (x 15, .inr (0, [])), (x 16, .inr (3, [])), (x 17, .inr (1, [])), (x 18, .inr (9, [])), (x 19, .inr (2, [])), (h 0, .inr (5, oH h da (nI n) de (nI v) pa)), (h 6, .inl (E.2.1 0, 30, .inl (nf nt))), (h 2, .inl (E.2.1 0, 7, .inl (nf pl)))] [(0, .ref (x 0)), (1, .int (nI p))] 0 []
  refine g_aload_n hC dX11_is_0 rfl 0 rfl ?_
  refine g_iload_n hC dX11_is_1 rfl 1 rfl ?_
  refine g_callV hC (f_X11_isThere (kl K) E x h dr da de (nI v) pa n (nI p) (by omega)) wX11_isThere m2_156 dX11_is_2 [0, 9] [(x 0, .inr (11, oL x h dr)), (x 7, .inr (6, oG x)), (x 8, .inl (E.2.1 4, 6, .inr (.inr (.inr (.inr (fun j => some (x (14 + j)))))))), (x 14, .inr (7, [])), (x 15, .inr (0, [])), (x 16, .inr (3, [])), (x 17, .inr (1, [])), (x 18, .inr (9, [])), (x 19, .inr (2, [])), (h 0, .inr (5, oH h da (nI n) de (nI v) pa)), (h 6, .inl (E.2.1 0, 30, .inl (nf nt))), (h 2, .inl (E.2.1 0, 7, .inl (nf pl)))] 0 11 rfl rfl (by decide) rfl (Nat.le_of_ble_eq_true rfl) rfl rfl rfl rfl rfl ?_
  refine g_if_neB (tgt := 15) hC dX11_is_5 (by decide) (fun h_5 => ?_) (fun h_5 => ?_)
  · refine g_iconst (v := (nI 0)) hC dX11_is_15 (by decide) ?_
    refine g_istore_n hC [(2, .int (nI 0)), (0, .ref (x 0)), (1, .int (nI p))] dX11_is_16 rfl (by decide) rfl ?_
    refine g_iconst (v := (nI 0)) hC dX11_is_17 (by decide) ?_
    refine g_istore_n hC [(3, .int (nI 0)), (2, .int (nI 0)), (0, .ref (x 0)), (1, .int (nI p))] dX11_is_18 rfl (by decide) rfl ?_
    have L_19 : ∀ (fu : Nat) (k : Nat) (hk : k ≤ 6), 6 - k < fu → G K E 4 [(x 0, .inr (11, oL x h dr)), (x 7, .inr (6, oG x)), (x 8, .inl (E.2.1 4, 6, .inr (.inr (.inr (.inr (fun j => some (x (14 + j)))))))), (x 14, .inr (7, [])), (x 15, .inr (0, [])), (x 16, .inr (3, [])), (x 17, .inr (1, [])), (x 18, .inr (9, [])), (x 19, .inr (2, [])), (h 0, .inr (5, oH h da (nI n) de (nI v) pa)), (h 6, .inl (E.2.1 0, 30, .inl (nf nt))), (h 2, .inl (E.2.1 0, 7, .inl (nf pl)))] [(3, .int (nI k)), (2, .int (nI (bs (fun q => arC nt p q (pl p) v) k))), (0, .ref (x 0)), (1, .int (nI p))] 19 [] := by
      intro fu
      induction fu with
      | zero => intro k hk hm_19; exact absurd hm_19 (Nat.not_lt_zero _)
      | succ fu ih_19 =>
        intro k hk hm_19
        refine g_iload_n hC dX11_is_19 rfl 0 rfl ?_
        refine g_bipush (v := (nI 6)) hC dX11_is_20 (by decide) ?_
        refine g_icmp_geN (tgt := 55) hC dX11_is_22 (by decide) (by omega) (by omega) (fun h_22 => ?_) (fun h_22 => ?_)
        · refine g_iload_n hC dX11_is_55 rfl 1 rfl ?_
          exact g_val (by rw [show k = 6 by omega]; rfl) (g_ws (rfl) (hR _ _ dX11_is_56))
        · refine g_aload_n hC dX11_is_25 rfl 2 rfl ?_
          refine g_iload_n hC dX11_is_26 rfl 3 rfl ?_
          refine g_iload_n hC dX11_is_27 rfl 0 rfl ?_
          refine g_aload_n hC dX11_is_28 rfl 2 rfl ?_
          refine g_get hC 0 11 0 inX11 m1_221 dX11_is_29 rfl rfl (by decide) rfl ?_
          refine g_get hC 9 5 3 inX5 m1_49 dX11_is_32 rfl rfl (by decide) rfl ?_
          refine g_iload_n hC dX11_is_35 rfl 3 rfl ?_
          refine g_ialdN hC 11 dX11_is_36 rfl (by decide) (by omega) ?_
          refine g_val (v' := .int (nI (pl p))) rfl ?_
          refine g_callV hC (f_X11_fits (kl K) E x h dr da (nI n) de pa v nt p k (pl p) (by omega) (hnt) (by omega) (by omega) (by omega)) wX11_fits m3_117 dX11_is_37 [0, 1, 2, 3, 4, 5, 6, 7, 8, 9, 10] [(x 0, .inr (11, oL x h dr)), (x 7, .inr (6, oG x)), (x 8, .inl (E.2.1 4, 6, .inr (.inr (.inr (.inr (fun j => some (x (14 + j)))))))), (x 14, .inr (7, [])), (x 15, .inr (0, [])), (x 16, .inr (3, [])), (x 17, .inr (1, [])), (x 18, .inr (9, [])), (x 19, .inr (2, [])), (h 0, .inr (5, oH h da (nI n) de (nI v) pa)), (h 6, .inl (E.2.1 0, 30, .inl (nf nt))), (h 2, .inl (E.2.1 0, 7, .inl (nf pl)))] 0 11 rfl rfl (by decide) rfl (Nat.le_of_ble_eq_true rfl) rfl rfl rfl rfl rfl ?_
          refine g_if_eqB (tgt := 49) hC dX11_is_40 (by decide) (fun h_40 => ?_) (fun h_40 => ?_)
          · refine g_iincN hC (q := 0) 1 [(3, .int (nI (k + 1))), (2, .int (nI (bs (fun q => arC nt p q (pl p) v) k))), (0, .ref (x 0)), (1, .int (nI p))] dX11_is_49 rfl rfl (by decide) rfl ?_
            refine g_goto (tgt := 19) hC dX11_is_52 (by decide) ?_
            refine g_lv (lv' := [(3, .int (nI (k + 1))), (2, .int (nI (bs (fun q => arC nt p q (pl p) v) k))), (0, .ref (x 0)), (1, .int (nI p))]) [0, 1, 2, 3] rfl ?_
            refine g_lve (lv' := [(3, .int (nI (k + 1))), (2, .int (nI (bs (fun q => arC nt p q (pl p) v) (k + 1)))), (0, .ref (x 0)), (1, .int (nI p))]) (by rw [bs_no' (p := fun q => arC nt p q (pl p) v) h_40]) ?_
            exact ih_19 (k + 1) (by omega) (by omega)
          · refine g_iload_n hC dX11_is_43 rfl 1 rfl ?_
            refine g_iconst (v := (nI 1)) hC dX11_is_44 (by decide) ?_
            refine g_iload_n hC dX11_is_45 rfl 0 rfl ?_
            refine g_ishl hC dX11_is_46 ?_
            refine g_ior hC dX11_is_47 ?_
            refine g_val (v' := .int (nI (bs (fun q => arC nt p q (pl p) v) (k + 1)))) (by rw [bs_yes (p := fun q => arC nt p q (pl p) v) (by omega) h_40]) ?_
            refine g_istore_n hC [(2, .int (nI (bs (fun q => arC nt p q (pl p) v) (k + 1)))), (3, .int (nI k)), (0, .ref (x 0)), (1, .int (nI p))] dX11_is_48 rfl (by decide) rfl ?_
            refine g_iincN hC (q := 1) 1 [(3, .int (nI (k + 1))), (2, .int (nI (bs (fun q => arC nt p q (pl p) v) (k + 1)))), (0, .ref (x 0)), (1, .int (nI p))] dX11_is_49 rfl rfl (by decide) rfl ?_
            refine g_goto (tgt := 19) hC dX11_is_52 (by decide) ?_
            refine g_lv (lv' := [(3, .int (nI (k + 1))), (2, .int (nI (bs (fun q => arC nt p q (pl p) v) (k + 1)))), (0, .ref (x 0)), (1, .int (nI p))]) [0, 1, 2, 3] rfl ?_
            exact ih_19 (k + 1) (by omega) (by omega)
    refine g_lv (lv' := [(3, .int (nI 0)), (2, .int (nI 0)), (0, .ref (x 0)), (1, .int (nI p))]) [0, 1, 2, 3] rfl ?_
    refine g_lve (lv' := [(3, .int (nI 0)), (2, .int (nI (bs (fun q => arC nt p q (pl p) v) 0))), (0, .ref (x 0)), (1, .int (nI p))]) (rfl) ?_
    exact L_19 ((6 - 0) + 1) 0 (by omega) (Nat.lt_succ_self _)
  · exact Bool.noConfusion ((inB_ok (by omega) (by omega)).symm.trans h_5)
set_option maxHeartbeats 600000 in
set_option maxRecDepth 100000 in
theorem f_X11_stood_ok (l : Launch) (E : Ew) (x : Nat → Nat) (h : Nat → Nat) (dr : Nat → Nat) (da : Int32) (de : Int32) (pa : Int32) (n : Nat) (v : Nat) (nt : Nat → Nat) (kd : Nat → Nat) (p : Nat) (hn7 : n ≤ 7) (hv : v ≤ 6) (hnt : ∀ k, k < v → nt (k * 5) < 7 ∧ nt (k * 5 + 1) < 10 ∧ nt (k * 5 + 2) < 100 ∧ nt (k * 5 + 3) < 2 ∧ nt (k * 5 + 4) < 2) (hp : p < n) (hkp : kd p < 6) : Fn l E 6 yX11_stood cX11_stood 2 (some .int) [.ref (x 0), .int (nI p)] [(x 0, .inr (11, oL x h dr)), (x 7, .inr (6, oG x)), (x 8, .inl (E.2.1 4, 6, .inr (.inr (.inr (.inr (fun j => some (x (14 + j)))))))), (x 14, .inr (7, [])), (x 15, .inr (0, [])), (x 16, .inr (3, [])), (x 17, .inr (1, [])), (x 18, .inr (9, [])), (x 19, .inr (2, [])), (h 0, .inr (5, oH h da (nI n) de (nI v) pa)), (h 6, .inl (E.2.1 0, 30, .inl (nf nt))), (h 1, .inl (E.2.1 0, 7, .inl (nf kd)))] (some (.int (nI (plC nt kd p v)))) [(x 0, .inr (11, oL x h dr)), (x 7, .inr (6, oG x)), (x 8, .inl (E.2.1 4, 6, .inr (.inr (.inr (.inr (fun j => some (x (14 + j)))))))), (x 14, .inr (7, [])), (x 15, .inr (0, [])), (x 16, .inr (3, [])), (x 17, .inr (1, [])), (x 18, .inr (9, [])), (x 19, .inr (2, [])), (h 0, .inr (5, oH h da (nI n) de (nI v) pa)), (h 6, .inl (E.2.1 0, 30, .inl (nf nt))), (h 1, .inl (E.2.1 0, 7, .inl (nf kd)))] := by
  refine fn_I (by decide) (Nat.le_of_ble_eq_true rfl) rfl ?_
  intro K hC hR
  show G K E 2 [(x 0, .inr (11, oL x h dr)), (x 7, .inr (6, oG x)), (x 8, .inl (E.2.1 4, 6, .inr (.inr (.inr (.inr (fun j => some (x (14 + j)))))))), (x 14, .inr (7, [])), (x 15, .inr (0, [])), (x 16, .inr (3, [])), (x 17, .inr (1, [])), (x 18, .inr (9, [])), (x 19, .inr (2, [])), (h 0, .inr (5, oH h da (nI n) de (nI v) pa)), (h 6, .inl (E.2.1 0, 30, .inl (nf nt))), (h 1, .inl (E.2.1 0, 7, .inl (nf kd)))] [(0, .ref (x 0)), (1, .int (nI p))] 0 []
  refine g_aload_n hC dX11_stood_0 rfl 0 rfl ?_
  refine g_iload_n hC dX11_stood_1 rfl 1 rfl ?_
  refine g_callV hC (f_X11_isThere (kl K) E x h dr da de (nI v) pa n (nI p) (by omega)) wX11_isThere m2_156 dX11_stood_2 [0, 9] [(x 0, .inr (11, oL x h dr)), (x 7, .inr (6, oG x)), (x 8, .inl (E.2.1 4, 6, .inr (.inr (.inr (.inr (fun j => some (x (14 + j)))))))), (x 14, .inr (7, [])), (x 15, .inr (0, [])), (x 16, .inr (3, [])), (x 17, .inr (1, [])), (x 18, .inr (9, [])), (x 19, .inr (2, [])), (h 0, .inr (5, oH h da (nI n) de (nI v) pa)), (h 6, .inl (E.2.1 0, 30, .inl (nf nt))), (h 1, .inl (E.2.1 0, 7, .inl (nf kd)))] 0 11 rfl rfl (by decide) rfl (Nat.le_of_ble_eq_true rfl) rfl rfl rfl rfl rfl ?_
  refine g_if_eqB (tgt := 16) hC dX11_stood_5 (by decide) (fun h_5 => ?_) (fun h_5 => ?_)
  · exact Bool.noConfusion ((inB_ok (by omega) (by omega)).symm.trans h_5)
  · refine g_aload_n hC dX11_stood_8 rfl 0 rfl ?_
    refine g_iload_n hC dX11_stood_9 rfl 1 rfl ?_
    refine g_callV hC (f_X11_placesThatFit (kl K) E x h dr da (nI n) de pa v nt kd p (by omega) (hnt) (by omega) (by omega)) wX11_placesThatFit m3_127 dX11_stood_10 [0, 1, 2, 3, 4, 5, 6, 7, 8, 9, 10, 11] [(x 0, .inr (11, oL x h dr)), (x 7, .inr (6, oG x)), (x 8, .inl (E.2.1 4, 6, .inr (.inr (.inr (.inr (fun j => some (x (14 + j)))))))), (x 14, .inr (7, [])), (x 15, .inr (0, [])), (x 16, .inr (3, [])), (x 17, .inr (1, [])), (x 18, .inr (9, [])), (x 19, .inr (2, [])), (h 0, .inr (5, oH h da (nI n) de (nI v) pa)), (h 6, .inl (E.2.1 0, 30, .inl (nf nt))), (h 1, .inl (E.2.1 0, 7, .inl (nf kd)))] 0 11 rfl rfl (by decide) rfl (Nat.le_of_ble_eq_true rfl) rfl rfl rfl rfl rfl ?_
    refine g_goto (tgt := 22) hC dX11_stood_13 (by decide) ?_
    exact g_val (rfl) (g_ws (rfl) (hR _ _ dX11_stood_22))
set_option maxHeartbeats 600000 in
set_option maxRecDepth 100000 in
theorem f_X11_is_bad (l : Launch) (E : Ew) (x : Nat → Nat) (h : Nat → Nat) (dr : Nat → Nat) (da : Int32) (de : Int32) (no : Int32) (pa : Int32) (n : Nat) (r : Nat → Int32) (x0 : Int32) (hn7 : n ≤ 7) (hb : inB x0 n = false) : Fn l E 2 yX11_is cX11_is 4 (some .int) [.ref (x 0), .int x0] [(x 0, .inr (11, oL x h dr)), (h 0, .inr (5, oH h da (nI n) de no pa)), (x 3, .inl (E.2.1 0, 3, .inl r))] (some (.int (-2))) [(x 0, .inr (11, oL x h dr)), (h 0, .inr (5, oH h da (nI n) de no pa)), (x 3, .inl (E.2.1 0, 3, .inl (upd r 0 (r 0 + nI 1))))] := by
  refine fn_I (by decide) (Nat.le_of_ble_eq_true rfl) rfl ?_
  intro K hC hR
  show G K E 4 [(x 0, .inr (11, oL x h dr)), (h 0, .inr (5, oH h da (nI n) de no pa)), (x 3, .inl (E.2.1 0, 3, .inl r))] [(0, .ref (x 0)), (1, .int x0)] 0 []
  refine g_aload_n hC dX11_is_0 rfl 0 rfl ?_
  refine g_iload_n hC dX11_is_1 rfl 1 rfl ?_
  refine g_callV hC (f_X11_isThere (kl K) E x h dr da de no pa n x0 (by omega)) wX11_isThere m2_156 dX11_is_2 [0, 1] [(x 0, .inr (11, oL x h dr)), (h 0, .inr (5, oH h da (nI n) de no pa)), (x 3, .inl (E.2.1 0, 3, .inl r))] 0 11 rfl rfl (by decide) rfl (Nat.le_of_ble_eq_true rfl) rfl rfl rfl rfl rfl ?_
  refine g_if_neB (tgt := 15) hC dX11_is_5 (by decide) (fun h_5 => ?_) (fun h_5 => ?_)
  · exact absurd h_5 (by rw [hb]; decide)
  · refine g_aload_n hC dX11_is_8 rfl 0 rfl ?_
    refine g_bipush (v := (-2)) hC dX11_is_9 (by decide) ?_
    refine g_callV hC (f_X11_refuse_bad (kl K) E x h dr r) wX11_refuse m2_16 dX11_is_11 [0, 2] [(x 0, .inr (11, oL x h dr)), (h 0, .inr (5, oH h da (nI n) de no pa)), (x 3, .inl (E.2.1 0, 3, .inl (upd r 0 (r 0 + nI 1))))] 0 11 rfl rfl (by decide) rfl (Nat.le_of_ble_eq_true rfl) rfl rfl rfl rfl rfl ?_
    exact g_val (rfl) (g_ws (rfl) (hR _ _ dX11_is_14))
set_option maxHeartbeats 600000 in
set_option maxRecDepth 100000 in
theorem f_X11_stood_bad (l : Launch) (E : Ew) (x : Nat → Nat) (h : Nat → Nat) (dr : Nat → Nat) (da : Int32) (de : Int32) (no : Int32) (pa : Int32) (n : Nat) (r : Nat → Int32) (x0 : Int32) (hn7 : n ≤ 7) (hb : inB x0 n = false) : Fn l E 2 yX11_stood cX11_stood 2 (some .int) [.ref (x 0), .int x0] [(x 0, .inr (11, oL x h dr)), (h 0, .inr (5, oH h da (nI n) de no pa)), (x 3, .inl (E.2.1 0, 3, .inl r))] (some (.int (-2))) [(x 0, .inr (11, oL x h dr)), (h 0, .inr (5, oH h da (nI n) de no pa)), (x 3, .inl (E.2.1 0, 3, .inl (upd r 0 (r 0 + nI 1))))] := by
  refine fn_I (by decide) (Nat.le_of_ble_eq_true rfl) rfl ?_
  intro K hC hR
  show G K E 2 [(x 0, .inr (11, oL x h dr)), (h 0, .inr (5, oH h da (nI n) de no pa)), (x 3, .inl (E.2.1 0, 3, .inl r))] [(0, .ref (x 0)), (1, .int x0)] 0 []
  refine g_aload_n hC dX11_stood_0 rfl 0 rfl ?_
  refine g_iload_n hC dX11_stood_1 rfl 1 rfl ?_
  refine g_callV hC (f_X11_isThere (kl K) E x h dr da de no pa n x0 (by omega)) wX11_isThere m2_156 dX11_stood_2 [0, 1] [(x 0, .inr (11, oL x h dr)), (h 0, .inr (5, oH h da (nI n) de no pa)), (x 3, .inl (E.2.1 0, 3, .inl r))] 0 11 rfl rfl (by decide) rfl (Nat.le_of_ble_eq_true rfl) rfl rfl rfl rfl rfl ?_
  refine g_if_eqB (tgt := 16) hC dX11_stood_5 (by decide) (fun h_5 => ?_) (fun h_5 => ?_)
  · refine g_aload_n hC dX11_stood_16 rfl 0 rfl ?_
    refine g_bipush (v := (-2)) hC dX11_stood_17 (by decide) ?_
    refine g_callV hC (f_X11_refuse_bad (kl K) E x h dr r) wX11_refuse m2_16 dX11_stood_19 [0, 2] [(x 0, .inr (11, oL x h dr)), (h 0, .inr (5, oH h da (nI n) de no pa)), (x 3, .inl (E.2.1 0, 3, .inl (upd r 0 (r 0 + nI 1))))] 0 11 rfl rfl (by decide) rfl (Nat.le_of_ble_eq_true rfl) rfl rfl rfl rfl rfl ?_
    exact g_val (rfl) (g_ws (rfl) (hR _ _ dX11_stood_22))
  · exact absurd h_5 (by rw [hb]; decide)
set_option maxHeartbeats 600000 in
set_option maxRecDepth 100000 in
theorem f_X11_next_bad (l : Launch) (E : Ew) (x : Nat → Nat) (h : Nat → Nat) (dr : Nat → Nat) (da : Int32) (de : Int32) (no : Int32) (pa : Int32) (n : Nat) (r : Nat → Int32) (x0 : Int32) (hn7 : n ≤ 7) (hb : inB x0 n = false) : Fn l E 2 yX11_next cX11_next 8 (some .int) [.ref (x 0), .int x0] [(x 0, .inr (11, oL x h dr)), (h 0, .inr (5, oH h da (nI n) de no pa)), (x 3, .inl (E.2.1 0, 3, .inl r))] (some (.int (-2))) [(x 0, .inr (11, oL x h dr)), (h 0, .inr (5, oH h da (nI n) de no pa)), (x 3, .inl (E.2.1 0, 3, .inl (upd r 0 (r 0 + nI 1))))] := by
  refine fn_I (by decide) (Nat.le_of_ble_eq_true rfl) rfl ?_
  intro K hC hR
  show G K E 8 [(x 0, .inr (11, oL x h dr)), (h 0, .inr (5, oH h da (nI n) de no pa)), (x 3, .inl (E.2.1 0, 3, .inl r))] [(0, .ref (x 0)), (1, .int x0)] 0 []
  refine g_aload_n hC dX11_next_0 rfl 0 rfl ?_
  refine g_iload_n hC dX11_next_1 rfl 1 rfl ?_
  refine g_callV hC (f_X11_isThere (kl K) E x h dr da de no pa n x0 (by omega)) wX11_isThere m2_156 dX11_next_2 [0, 1] [(x 0, .inr (11, oL x h dr)), (h 0, .inr (5, oH h da (nI n) de no pa)), (x 3, .inl (E.2.1 0, 3, .inl r))] 0 11 rfl rfl (by decide) rfl (Nat.le_of_ble_eq_true rfl) rfl rfl rfl rfl rfl ?_
  refine g_if_neB (tgt := 15) hC dX11_next_5 (by decide) (fun h_5 => ?_) (fun h_5 => ?_)
  · exact absurd h_5 (by rw [hb]; decide)
  · refine g_aload_n hC dX11_next_8 rfl 0 rfl ?_
    refine g_bipush (v := (-2)) hC dX11_next_9 (by decide) ?_
    refine g_callV hC (f_X11_refuse_bad (kl K) E x h dr r) wX11_refuse m2_16 dX11_next_11 [0, 2] [(x 0, .inr (11, oL x h dr)), (h 0, .inr (5, oH h da (nI n) de no pa)), (x 3, .inl (E.2.1 0, 3, .inl (upd r 0 (r 0 + nI 1))))] 0 11 rfl rfl (by decide) rfl (Nat.le_of_ble_eq_true rfl) rfl rfl rfl rfl rfl ?_
    exact g_val (rfl) (g_ws (rfl) (hR _ _ dX11_next_14))
set_option maxHeartbeats 600000 in
set_option maxRecDepth 100000 in
theorem f_X11_next_ok (l : Launch) (E : Ew) (x : Nat → Nat) (h : Nat → Nat) (dr : Nat → Nat) (da : Int32) (de : Int32) (pa : Int32) (n : Nat) (v : Nat) (nt : Nat → Nat) (kd : Nat → Nat) (p : Nat) (hn7 : n ≤ 7) (hv : v ≤ 6) (hnt : ∀ k, k < v → nt (k * 5) < 7 ∧ nt (k * 5 + 1) < 10 ∧ nt (k * 5 + 2) < 100 ∧ nt (k * 5 + 3) < 2 ∧ nt (k * 5 + 4) < 2) (hp : p < n) (hkp : kd p < 6) : Fn l E 6 yX11_next cX11_next 8 (some .int) [.ref (x 0), .int (nI p)] [(x 0, .inr (11, oL x h dr)), (x 7, .inr (6, oG x)), (x 8, .inl (E.2.1 4, 6, .inr (.inr (.inr (.inr (fun j => some (x (14 + j)))))))), (x 14, .inr (7, [])), (x 15, .inr (0, [])), (x 16, .inr (3, [])), (x 17, .inr (1, [])), (x 18, .inr (9, [])), (x 19, .inr (2, [])), (h 0, .inr (5, oH h da (nI n) de (nI v) pa)), (h 6, .inl (E.2.1 0, 30, .inl (nf nt))), (h 1, .inl (E.2.1 0, 7, .inl (nf kd)))] (some (.int (if plC nt kd p v = 0 then -1 else (nxC nt kd da p v 10).1))) [(x 0, .inr (11, oL x h dr)), (x 7, .inr (6, oG x)), (x 8, .inl (E.2.1 4, 6, .inr (.inr (.inr (.inr (fun j => some (x (14 + j)))))))), (x 14, .inr (7, [])), (x 15, .inr (0, [])), (x 16, .inr (3, [])), (x 17, .inr (1, [])), (x 18, .inr (9, [])), (x 19, .inr (2, [])), (h 0, .inr (5, oH h da (nI n) de (nI v) pa)), (h 6, .inl (E.2.1 0, 30, .inl (nf nt))), (h 1, .inl (E.2.1 0, 7, .inl (nf kd)))] := by
  refine fn_I (by decide) (Nat.le_of_ble_eq_true rfl) rfl ?_
  intro K hC hR
  show G K E 8 [(x 0, .inr (11, oL x h dr)), (x 7, .inr (6, oG x)), (x 8, .inl (E.2.1 4, 6, .inr (.inr (.inr (.inr (fun j => some (x (14 + j)))))))), (x 14, .inr (7, [])), (x 15, .inr (0, [])), (x 16, .inr (3, [])), (x 17, .inr (1, [])), (x 18, .inr (9, [])), (x 19, .inr (2, [])), (h 0, .inr (5, oH h da (nI n) de (nI v) pa)), (h 6, .inl (E.2.1 0, 30, .inl (nf nt))), (h 1, .inl (E.2.1 0, 7, .inl (nf kd)))] [(0, .ref (x 0)), (1, .int (nI p))] 0 []
  have hps := plC_lt nt kd p v
  refine g_aload_n hC dX11_next_0 rfl 0 rfl ?_
  refine g_iload_n hC dX11_next_1 rfl 1 rfl ?_
  refine g_callV hC (f_X11_isThere (kl K) E x h dr da de (nI v) pa n (nI p) (by omega)) wX11_isThere m2_156 dX11_next_2 [0, 9] [(x 0, .inr (11, oL x h dr)), (x 7, .inr (6, oG x)), (x 8, .inl (E.2.1 4, 6, .inr (.inr (.inr (.inr (fun j => some (x (14 + j)))))))), (x 14, .inr (7, [])), (x 15, .inr (0, [])), (x 16, .inr (3, [])), (x 17, .inr (1, [])), (x 18, .inr (9, [])), (x 19, .inr (2, [])), (h 0, .inr (5, oH h da (nI n) de (nI v) pa)), (h 6, .inl (E.2.1 0, 30, .inl (nf nt))), (h 1, .inl (E.2.1 0, 7, .inl (nf kd)))] 0 11 rfl rfl (by decide) rfl (Nat.le_of_ble_eq_true rfl) rfl rfl rfl rfl rfl ?_
  refine g_if_neB (tgt := 15) hC dX11_next_5 (by decide) (fun h_5 => ?_) (fun h_5 => ?_)
  · refine g_aload_n hC dX11_next_15 rfl 0 rfl ?_
    refine g_iload_n hC dX11_next_16 rfl 1 rfl ?_
    refine g_callV hC (f_X11_placesThatFit (kl K) E x h dr da (nI n) de pa v nt kd p (by omega) (hnt) (by omega) (by omega)) wX11_placesThatFit m3_127 dX11_next_17 [0, 1, 2, 3, 4, 5, 6, 7, 8, 9, 10, 11] [(x 0, .inr (11, oL x h dr)), (x 7, .inr (6, oG x)), (x 8, .inl (E.2.1 4, 6, .inr (.inr (.inr (.inr (fun j => some (x (14 + j)))))))), (x 14, .inr (7, [])), (x 15, .inr (0, [])), (x 16, .inr (3, [])), (x 17, .inr (1, [])), (x 18, .inr (9, [])), (x 19, .inr (2, [])), (h 0, .inr (5, oH h da (nI n) de (nI v) pa)), (h 6, .inl (E.2.1 0, 30, .inl (nf nt))), (h 1, .inl (E.2.1 0, 7, .inl (nf kd)))] 0 11 rfl rfl (by decide) rfl (Nat.le_of_ble_eq_true rfl) rfl rfl rfl rfl rfl ?_
    refine g_istore_n hC [(2, .int (nI (plC nt kd p v))), (0, .ref (x 0)), (1, .int (nI p))] dX11_next_20 rfl (by decide) rfl ?_
    refine g_bipush (v := (nI 11)) hC dX11_next_21 (by decide) ?_
    refine g_istore_n hC [(3, .int (nI 11)), (2, .int (nI (plC nt kd p v))), (0, .ref (x 0)), (1, .int (nI p))] dX11_next_23 rfl (by decide) rfl ?_
    refine g_iconst (v := (-1)) hC dX11_next_24 (by decide) ?_
    refine g_istore hC [(4, .int (-1)), (3, .int (nI 11)), (2, .int (nI (plC nt kd p v))), (0, .ref (x 0)), (1, .int (nI p))] dX11_next_25 (by decide) rfl ?_
    refine g_iconst (v := (nI 0)) hC dX11_next_27 (by decide) ?_
    refine g_istore hC [(5, .int (nI 0)), (4, .int (-1)), (3, .int (nI 11)), (2, .int (nI (plC nt kd p v))), (0, .ref (x 0)), (1, .int (nI p))] dX11_next_28 (by decide) rfl ?_
    have L_30 : ∀ (fu : Nat) (k : Nat) (b : Int32) (l0 : Nat) (hk : k ≤ 10) (hbl : (b, l0) = nxC nt kd da p v k) (hl0 : l0 < 2147483648) (hz : plC nt kd p v = 0 → k = 0), 10 - k < fu → G K E 8 [(x 0, .inr (11, oL x h dr)), (x 7, .inr (6, oG x)), (x 8, .inl (E.2.1 4, 6, .inr (.inr (.inr (.inr (fun j => some (x (14 + j)))))))), (x 14, .inr (7, [])), (x 15, .inr (0, [])), (x 16, .inr (3, [])), (x 17, .inr (1, [])), (x 18, .inr (9, [])), (x 19, .inr (2, [])), (h 0, .inr (5, oH h da (nI n) de (nI v) pa)), (h 6, .inl (E.2.1 0, 30, .inl (nf nt))), (h 1, .inl (E.2.1 0, 7, .inl (nf kd)))] [(5, .int (nI k)), (4, .int b), (3, .int (nI l0)), (2, .int (nI (plC nt kd p v))), (0, .ref (x 0)), (1, .int (nI p))] 30 [] := by
      intro fu
      induction fu with
      | zero => intro k b l0 hk hbl hl0 hz hm_30; exact absurd hm_30 (Nat.not_lt_zero _)
      | succ fu ih_30 =>
        intro k b l0 hk hbl hl0 hz hm_30
        refine g_iload hC dX11_next_30 0 rfl ?_
        refine g_bipush (v := (nI 10)) hC dX11_next_32 (by decide) ?_
        refine g_icmp_geN (tgt := 90) hC dX11_next_34 (by decide) (by omega) (by omega) (fun h_34 => ?_) (fun h_34 => ?_)
        · refine g_iload hC dX11_next_90 1 rfl ?_
          exact g_val (by rw [show k = 10 by omega] at hbl; rw [if_neg (by omega), ← hbl]) (g_ws (rfl) (hR _ _ dX11_next_92))
        · have hcy := ct_le (plC nt kd p v &&& ptC kd da p k).testBit 31
          have hcz := ct_le (andn (plC nt kd p v) (plC nt kd p v &&& ptC kd da p k)).testBit 31
          have hyk : (plC nt kd p v &&& ptC kd da p k) < 1024 := Nat.lt_of_le_of_lt Nat.and_le_left hps
          have hxm : nxM nt kd da p v k < 40 := by unfold nxM; split <;> omega
          refine g_iload_n hC dX11_next_37 rfl 3 rfl ?_
          refine g_if_eqN (tgt := 90) hC dX11_next_38 (by decide) (by omega) (fun h_38 => ?_) (fun h_38 => ?_)
          · refine g_iload hC dX11_next_90 1 rfl ?_
            exact g_val (by rw [if_pos (by omega)]; rw [show k = 0 by omega] at hbl; have := congrArg Prod.fst hbl; simp [nxC] at this; rw [this]) (g_ws (rfl) (hR _ _ dX11_next_92))
          · refine g_iload_n hC dX11_next_41 rfl 3 rfl ?_
            refine g_aload_n hC dX11_next_42 rfl 4 rfl ?_
            refine g_iload_n hC dX11_next_43 rfl 5 rfl ?_
            refine g_iload hC dX11_next_44 0 rfl ?_
            refine g_callV hC (f_X11_placesTurningAt (kl K) E x h dr da (nI n) de (nI v) pa kd p k (by omega) (by omega) (by omega)) wX11_placesTurningAt m3_135 dX11_next_46 [0, 1, 2, 3, 4, 5, 6, 7, 8, 9, 11] [(x 0, .inr (11, oL x h dr)), (x 7, .inr (6, oG x)), (x 8, .inl (E.2.1 4, 6, .inr (.inr (.inr (.inr (fun j => some (x (14 + j)))))))), (x 14, .inr (7, [])), (x 15, .inr (0, [])), (x 16, .inr (3, [])), (x 17, .inr (1, [])), (x 18, .inr (9, [])), (x 19, .inr (2, [])), (h 0, .inr (5, oH h da (nI n) de (nI v) pa)), (h 6, .inl (E.2.1 0, 30, .inl (nf nt))), (h 1, .inl (E.2.1 0, 7, .inl (nf kd)))] 0 11 rfl rfl (by decide) rfl (Nat.le_of_ble_eq_true rfl) rfl rfl rfl rfl rfl ?_
            refine g_iand hC dX11_next_49 ?_
            refine g_val (v' := .int (nI (plC nt kd p v &&& ptC kd da p k))) (by rw [fa_and]) ?_
            refine g_istore hC [(6, .int (nI (plC nt kd p v &&& ptC kd da p k))), (5, .int (nI k)), (4, .int b), (3, .int (nI l0)), (2, .int (nI (plC nt kd p v))), (0, .ref (x 0)), (1, .int (nI p))] dX11_next_50 (by decide) rfl ?_
            refine g_iload hC dX11_next_52 0 rfl ?_
            refine g_callS hC (f_J6_bitCount_0f7a4 (kl K) E (plC nt kd p v &&& ptC kd da p k) (by omega)) wJ6_bitCount_0f7a4 m3_11 dX11_next_54 [] [(x 0, .inr (11, oL x h dr)), (x 7, .inr (6, oG x)), (x 8, .inl (E.2.1 4, 6, .inr (.inr (.inr (.inr (fun j => some (x (14 + j)))))))), (x 14, .inr (7, [])), (x 15, .inr (0, [])), (x 16, .inr (3, [])), (x 17, .inr (1, [])), (x 18, .inr (9, [])), (x 19, .inr (2, [])), (h 0, .inr (5, oH h da (nI n) de (nI v) pa)), (h 6, .inl (E.2.1 0, 30, .inl (nf nt))), (h 1, .inl (E.2.1 0, 7, .inl (nf kd)))] (by decide) rfl (Nat.le_of_ble_eq_true rfl) rfl rfl rfl rfl rfl ?_
            refine g_iload_n hC dX11_next_57 rfl 4 rfl ?_
            refine g_iload hC dX11_next_58 0 rfl ?_
            refine g_iconst (v := (-1)) hC dX11_next_60 (by decide) ?_
            refine g_ixor hC dX11_next_61 ?_
            refine g_iand hC dX11_next_62 ?_
            refine g_val (v' := .int (nI (andn (plC nt kd p v) (plC nt kd p v &&& ptC kd da p k)))) (by rw [andn_N (by omega)]) ?_
            refine g_callS hC (f_J6_bitCount_0f7a4 (kl K) E (andn (plC nt kd p v) (plC nt kd p v &&& ptC kd da p k)) (andn_1024 hps)) wJ6_bitCount_0f7a4 m3_11 dX11_next_63 [] [(x 0, .inr (11, oL x h dr)), (x 7, .inr (6, oG x)), (x 8, .inl (E.2.1 4, 6, .inr (.inr (.inr (.inr (fun j => some (x (14 + j)))))))), (x 14, .inr (7, [])), (x 15, .inr (0, [])), (x 16, .inr (3, [])), (x 17, .inr (1, [])), (x 18, .inr (9, [])), (x 19, .inr (2, [])), (h 0, .inr (5, oH h da (nI n) de (nI v) pa)), (h 6, .inl (E.2.1 0, 30, .inl (nf nt))), (h 1, .inl (E.2.1 0, 7, .inl (nf kd)))] (by decide) rfl (Nat.le_of_ble_eq_true rfl) rfl rfl rfl rfl rfl ?_
            refine g_mmax hC m3_139 m3_140 m1_20 m3_141 dX11_next_66 (by decide) (Nat.le_of_ble_eq_true rfl) ?_
            refine g_val (v' := .int (nI (nxM nt kd da p v k))) (by rw [max_N (by omega) (by omega)]; rfl) ?_
            refine g_istore hC [(7, .int (nI (nxM nt kd da p v k))), (6, .int (nI (plC nt kd p v &&& ptC kd da p k))), (5, .int (nI k)), (4, .int b), (3, .int (nI l0)), (2, .int (nI (plC nt kd p v))), (0, .ref (x 0)), (1, .int (nI p))] dX11_next_69 (by decide) rfl ?_
            refine g_iload hC dX11_next_71 0 rfl ?_
            refine g_iload_n hC dX11_next_73 rfl 4 rfl ?_
            refine g_icmp_geN (tgt := 84) hC dX11_next_74 (by decide) (by omega) (by omega) (fun h_74 => ?_) (fun h_74 => ?_)
            · refine g_iincN hC (q := 2) 1 [(5, .int (nI (k + 1))), (7, .int (nI (nxM nt kd da p v k))), (6, .int (nI (plC nt kd p v &&& ptC kd da p k))), (4, .int b), (3, .int (nI l0)), (2, .int (nI (plC nt kd p v))), (0, .ref (x 0)), (1, .int (nI p))] dX11_next_84 rfl rfl (by decide) rfl ?_
              refine g_goto (tgt := 30) hC dX11_next_87 (by decide) ?_
              refine g_lv (lv' := [(5, .int (nI (k + 1))), (4, .int b), (3, .int (nI l0)), (2, .int (nI (plC nt kd p v))), (0, .ref (x 0)), (1, .int (nI p))]) [0, 3, 4, 5, 6, 7] rfl ?_
              exact ih_30 (k + 1) b l0 (by omega) (by rw [nxC, ← hbl]; exact (if_neg (show ¬ nxM nt kd da p v k < l0 by omega)).symm) (by omega) (by omega) (by omega)
            · refine g_iload hC dX11_next_77 0 rfl ?_
              refine g_istore_n hC [(3, .int (nI (nxM nt kd da p v k))), (7, .int (nI (nxM nt kd da p v k))), (6, .int (nI (plC nt kd p v &&& ptC kd da p k))), (5, .int (nI k)), (4, .int b), (2, .int (nI (plC nt kd p v))), (0, .ref (x 0)), (1, .int (nI p))] dX11_next_79 rfl (by decide) rfl ?_
              refine g_iload hC dX11_next_80 3 rfl ?_
              refine g_istore hC [(4, .int (nI k)), (3, .int (nI (nxM nt kd da p v k))), (7, .int (nI (nxM nt kd da p v k))), (6, .int (nI (plC nt kd p v &&& ptC kd da p k))), (5, .int (nI k)), (2, .int (nI (plC nt kd p v))), (0, .ref (x 0)), (1, .int (nI p))] dX11_next_82 (by decide) rfl ?_
              refine g_iincN hC (q := 4) 1 [(5, .int (nI (k + 1))), (4, .int (nI k)), (3, .int (nI (nxM nt kd da p v k))), (7, .int (nI (nxM nt kd da p v k))), (6, .int (nI (plC nt kd p v &&& ptC kd da p k))), (2, .int (nI (plC nt kd p v))), (0, .ref (x 0)), (1, .int (nI p))] dX11_next_84 rfl rfl (by decide) rfl ?_
              refine g_goto (tgt := 30) hC dX11_next_87 (by decide) ?_
              refine g_lv (lv' := [(5, .int (nI (k + 1))), (4, .int (nI k)), (3, .int (nI (nxM nt kd da p v k))), (2, .int (nI (plC nt kd p v))), (0, .ref (x 0)), (1, .int (nI p))]) [0, 1, 2, 5, 6, 7] rfl ?_
              exact ih_30 (k + 1) (nI k) (nxM nt kd da p v k) (by omega) (by rw [nxC, ← hbl]; exact (if_pos (show nxM nt kd da p v k < l0 by omega)).symm) (by omega) (by omega) (by omega)
    refine g_lv (lv' := [(5, .int (nI 0)), (4, .int (-1)), (3, .int (nI 11)), (2, .int (nI (plC nt kd p v))), (0, .ref (x 0)), (1, .int (nI p))]) [0, 1, 2, 3, 4, 5] rfl ?_
    exact L_30 ((10 - 0) + 1) 0 (-1) 11 (by omega) (rfl) (by decide) (by omega) (Nat.lt_succ_self _)
  · exact Bool.noConfusion ((inB_ok (by omega) (by omega)).symm.trans h_5)
set_option maxHeartbeats 600000 in
set_option maxRecDepth 100000 in
theorem f_X11_trippers_ok (l : Launch) (E : Ew) (x : Nat → Nat) (h : Nat → Nat) (dr : Nat → Nat) (da : Int32) (de : Int32) (no : Int32) (pa : Int32) (n : Nat) (kd : Nat → Nat) (pl : Nat → Nat) (bn : Nat → Nat) (ao : Nat → Nat) (at1 : Nat → Nat) (an : Nat → Nat) (ab : Int64) (be : Int64) (p : Nat) (x0 : Nat) (pp : Nat) (c : Nat) (hn7 : n ≤ 7) (hkd : ∀ p, p < n → kd p < 6) (hpl : ∀ p, p < n → pl p < 10) (hbn : ∀ j, j < 7 → bn j < 2 ^ n) (hx : x0 < n) (hpp : pp < 10) (hb : ∀ j, j < 7 → bn j < 128) (hp : p < n) (hc : c < 11) : Fn l E 6 yX11_trippers cX11_trippers 12 (some .int) [.ref (x 0), .int (nI p), .int (nI x0), .int (nI pp), .int (nI c)] [(x 0, .inr (11, oL x h dr)), (x 7, .inr (6, oG x)), (x 8, .inl (E.2.1 4, 6, .inr (.inr (.inr (.inr (fun j => some (x (14 + j)))))))), (x 14, .inr (7, [])), (x 15, .inr (0, [])), (x 16, .inr (3, [])), (x 17, .inr (1, [])), (x 18, .inr (9, [])), (x 19, .inr (2, [])), (x 9, .inl (E.2.1 0, 10, .inl (nf ao))), (x 10, .inl (E.2.1 0, 10, .inl (nf at1))), (x 11, .inl (E.2.1 0, 10, .inl (nf an))), (h 0, .inr (5, oH h da (nI n) de no pa)), (h 1, .inl (E.2.1 0, 7, .inl (nf kd))), (h 2, .inl (E.2.1 0, 7, .inl (nf pl))), (h 3, .inl (E.2.1 0, 7, .inl (nf bn))), (x 6, .inr (4, oF x ab be))] (some (.int (nI 1))) [(x 0, .inr (11, oL x h dr)), (x 7, .inr (6, oG x)), (x 8, .inl (E.2.1 4, 6, .inr (.inr (.inr (.inr (fun j => some (x (14 + j)))))))), (x 14, .inr (7, [])), (x 15, .inr (0, [])), (x 16, .inr (3, [])), (x 17, .inr (1, [])), (x 18, .inr (9, [])), (x 19, .inr (2, [])), (x 9, .inl (E.2.1 0, 10, .inl (nf (un ao pp (hB kd pl pp da true false n))))), (x 10, .inl (E.2.1 0, 10, .inl (nf (un at1 pp (hB kd pl pp da false false n))))), (x 11, .inl (E.2.1 0, 10, .inl (nf (un an pp (hB kd pl pp da false true n))))), (h 0, .inr (5, oH h da (nI n) de no pa)), (h 1, .inl (E.2.1 0, 7, .inl (nf kd))), (h 2, .inl (E.2.1 0, 7, .inl (nf pl))), (h 3, .inl (E.2.1 0, 7, .inl (nf bn))), (x 6, .inr (4, oF x (lN ((trC (HT kd pl bn da x0 pp n) (bn x0) p c (ct (HT kd pl bn da x0 pp n).testBit 31)) / Nat.gcd (trC (HT kd pl bn da x0 pp n) (bn x0) p c (ct (HT kd pl bn da x0 pp n).testBit 31)) (10 ^ (ct (HT kd pl bn da x0 pp n).testBit 31)))) (lN ((10 ^ (ct (HT kd pl bn da x0 pp n).testBit 31)) / Nat.gcd (trC (HT kd pl bn da x0 pp n) (bn x0) p c (ct (HT kd pl bn da x0 pp n).testBit 31)) (10 ^ (ct (HT kd pl bn da x0 pp n).testBit 31))))))] := by
  refine fn_I (by decide) (Nat.le_of_ble_eq_true rfl) rfl ?_
  intro K hC hR
  show G K E 12 [(x 0, .inr (11, oL x h dr)), (x 7, .inr (6, oG x)), (x 8, .inl (E.2.1 4, 6, .inr (.inr (.inr (.inr (fun j => some (x (14 + j)))))))), (x 14, .inr (7, [])), (x 15, .inr (0, [])), (x 16, .inr (3, [])), (x 17, .inr (1, [])), (x 18, .inr (9, [])), (x 19, .inr (2, [])), (x 9, .inl (E.2.1 0, 10, .inl (nf ao))), (x 10, .inl (E.2.1 0, 10, .inl (nf at1))), (x 11, .inl (E.2.1 0, 10, .inl (nf an))), (h 0, .inr (5, oH h da (nI n) de no pa)), (h 1, .inl (E.2.1 0, 7, .inl (nf kd))), (h 2, .inl (E.2.1 0, 7, .inl (nf pl))), (h 3, .inl (E.2.1 0, 7, .inl (nf bn))), (x 6, .inr (4, oF x ab be))] [(0, .ref (x 0)), (1, .int (nI p)), (2, .int (nI x0)), (3, .int (nI pp)), (4, .int (nI c))] 0 []
  have hHT := HT_lt kd pl bn da x0 pp hn7
  have hbx := hb x0 (by omega)
  have hm7 : ct (HT kd pl bn da x0 pp n).testBit 31 ≤ 7 := by rw [ct_tb (n := 7) hHT (by decide)]; exact ct_le _ 7
  have htr := trC_lt (T := HT kd pl bn da x0 pp n) (bx := bn x0) (p := p) (c := c) (by omega) hm7
  have hp10 : 0 < 10 ^ (ct (HT kd pl bn da x0 pp n).testBit 31) := Nat.pow_pos (by decide)
  refine g_aload_n hC dX11_trippers_0 rfl 0 rfl ?_
  refine g_iload_n hC dX11_trippers_1 rfl 1 rfl ?_
  refine g_callV hC (f_X11_isThere (kl K) E x h dr da de no pa n (nI p) (by omega)) wX11_isThere m2_156 dX11_trippers_2 [0, 12] [(x 0, .inr (11, oL x h dr)), (x 7, .inr (6, oG x)), (x 8, .inl (E.2.1 4, 6, .inr (.inr (.inr (.inr (fun j => some (x (14 + j)))))))), (x 14, .inr (7, [])), (x 15, .inr (0, [])), (x 16, .inr (3, [])), (x 17, .inr (1, [])), (x 18, .inr (9, [])), (x 19, .inr (2, [])), (x 9, .inl (E.2.1 0, 10, .inl (nf ao))), (x 10, .inl (E.2.1 0, 10, .inl (nf at1))), (x 11, .inl (E.2.1 0, 10, .inl (nf an))), (h 0, .inr (5, oH h da (nI n) de no pa)), (h 1, .inl (E.2.1 0, 7, .inl (nf kd))), (h 2, .inl (E.2.1 0, 7, .inl (nf pl))), (h 3, .inl (E.2.1 0, 7, .inl (nf bn))), (x 6, .inr (4, oF x ab be))] 0 11 rfl rfl (by decide) rfl (Nat.le_of_ble_eq_true rfl) rfl rfl rfl rfl rfl ?_
  refine g_if_eqB (tgt := 35) hC dX11_trippers_5 (by decide) (fun h_5 => ?_) (fun h_5 => ?_)
  · exact Bool.noConfusion ((inB_ok (by omega) (by omega)).symm.trans h_5)
  · refine g_aload_n hC dX11_trippers_8 rfl 0 rfl ?_
    refine g_iload_n hC dX11_trippers_9 rfl 2 rfl ?_
    refine g_callV hC (f_X11_isThere (kl K) E x h dr da de no pa n (nI x0) (by omega)) wX11_isThere m2_156 dX11_trippers_10 [0, 12] [(x 0, .inr (11, oL x h dr)), (x 7, .inr (6, oG x)), (x 8, .inl (E.2.1 4, 6, .inr (.inr (.inr (.inr (fun j => some (x (14 + j)))))))), (x 14, .inr (7, [])), (x 15, .inr (0, [])), (x 16, .inr (3, [])), (x 17, .inr (1, [])), (x 18, .inr (9, [])), (x 19, .inr (2, [])), (x 9, .inl (E.2.1 0, 10, .inl (nf ao))), (x 10, .inl (E.2.1 0, 10, .inl (nf at1))), (x 11, .inl (E.2.1 0, 10, .inl (nf an))), (h 0, .inr (5, oH h da (nI n) de no pa)), (h 1, .inl (E.2.1 0, 7, .inl (nf kd))), (h 2, .inl (E.2.1 0, 7, .inl (nf pl))), (h 3, .inl (E.2.1 0, 7, .inl (nf bn))), (x 6, .inr (4, oF x ab be))] 0 11 rfl rfl (by decide) rfl (Nat.le_of_ble_eq_true rfl) rfl rfl rfl rfl rfl ?_
    refine g_if_eqB (tgt := 35) hC dX11_trippers_13 (by decide) (fun h_13 => ?_) (fun h_13 => ?_)
    · exact Bool.noConfusion ((inB_ok (by omega) (by omega)).symm.trans h_13)
    · refine g_iload_n hC dX11_trippers_16 rfl 3 rfl ?_
      refine g_bipush (v := (nI 10)) hC dX11_trippers_17 (by decide) ?_
      refine g_callS hC (f_X11_within (kl K) E (nI pp) 10 (by omega)) wX11_within m2_13 dX11_trippers_19 [] [(x 0, .inr (11, oL x h dr)), (x 7, .inr (6, oG x)), (x 8, .inl (E.2.1 4, 6, .inr (.inr (.inr (.inr (fun j => some (x (14 + j)))))))), (x 14, .inr (7, [])), (x 15, .inr (0, [])), (x 16, .inr (3, [])), (x 17, .inr (1, [])), (x 18, .inr (9, [])), (x 19, .inr (2, [])), (x 9, .inl (E.2.1 0, 10, .inl (nf ao))), (x 10, .inl (E.2.1 0, 10, .inl (nf at1))), (x 11, .inl (E.2.1 0, 10, .inl (nf an))), (h 0, .inr (5, oH h da (nI n) de no pa)), (h 1, .inl (E.2.1 0, 7, .inl (nf kd))), (h 2, .inl (E.2.1 0, 7, .inl (nf pl))), (h 3, .inl (E.2.1 0, 7, .inl (nf bn))), (x 6, .inr (4, oF x ab be))] (by decide) rfl (Nat.le_of_ble_eq_true rfl) rfl rfl rfl rfl rfl ?_
      refine g_if_eqB (tgt := 35) hC dX11_trippers_22 (by decide) (fun h_22 => ?_) (fun h_22 => ?_)
      · exact Bool.noConfusion ((inB_ok (by omega) (by omega)).symm.trans h_22)
      · refine g_iload hC dX11_trippers_25 4 rfl ?_
        refine g_bipush (v := (nI 11)) hC dX11_trippers_27 (by decide) ?_
        refine g_callS hC (f_X11_within (kl K) E (nI c) 11 (by omega)) wX11_within m2_13 dX11_trippers_29 [] [(x 0, .inr (11, oL x h dr)), (x 7, .inr (6, oG x)), (x 8, .inl (E.2.1 4, 6, .inr (.inr (.inr (.inr (fun j => some (x (14 + j)))))))), (x 14, .inr (7, [])), (x 15, .inr (0, [])), (x 16, .inr (3, [])), (x 17, .inr (1, [])), (x 18, .inr (9, [])), (x 19, .inr (2, [])), (x 9, .inl (E.2.1 0, 10, .inl (nf ao))), (x 10, .inl (E.2.1 0, 10, .inl (nf at1))), (x 11, .inl (E.2.1 0, 10, .inl (nf an))), (h 0, .inr (5, oH h da (nI n) de no pa)), (h 1, .inl (E.2.1 0, 7, .inl (nf kd))), (h 2, .inl (E.2.1 0, 7, .inl (nf pl))), (h 3, .inl (E.2.1 0, 7, .inl (nf bn))), (x 6, .inr (4, oF x ab be))] (by decide) rfl (Nat.le_of_ble_eq_true rfl) rfl rfl rfl rfl rfl ?_
        refine g_if_neB (tgt := 42) hC dX11_trippers_32 (by decide) (fun h_32 => ?_) (fun h_32 => ?_)
        · refine g_aload_n hC dX11_trippers_42 rfl 0 rfl ?_
          refine g_iload_n hC dX11_trippers_43 rfl 2 rfl ?_
          refine g_iload_n hC dX11_trippers_44 rfl 3 rfl ?_
          refine g_callV hC (f_X11_turnersAt (kl K) E x h dr da de no pa n kd pl bn ao at1 an x0 pp (by omega) (hkd) (hpl) (hbn) (by omega) (by omega)) wX11_turnersAt m2_160 dX11_trippers_45 [0, 1, 2, 3, 4, 5, 6, 7, 8, 9, 10, 11, 12, 13, 14, 15] [(x 0, .inr (11, oL x h dr)), (x 7, .inr (6, oG x)), (x 8, .inl (E.2.1 4, 6, .inr (.inr (.inr (.inr (fun j => some (x (14 + j)))))))), (x 14, .inr (7, [])), (x 15, .inr (0, [])), (x 16, .inr (3, [])), (x 17, .inr (1, [])), (x 18, .inr (9, [])), (x 19, .inr (2, [])), (x 9, .inl (E.2.1 0, 10, .inl (nf (un ao pp (hB kd pl pp da true false n))))), (x 10, .inl (E.2.1 0, 10, .inl (nf (un at1 pp (hB kd pl pp da false false n))))), (x 11, .inl (E.2.1 0, 10, .inl (nf (un an pp (hB kd pl pp da false true n))))), (h 0, .inr (5, oH h da (nI n) de no pa)), (h 1, .inl (E.2.1 0, 7, .inl (nf kd))), (h 2, .inl (E.2.1 0, 7, .inl (nf pl))), (h 3, .inl (E.2.1 0, 7, .inl (nf bn))), (x 6, .inr (4, oF x ab be))] 0 11 rfl rfl (by decide) rfl (Nat.le_of_ble_eq_true rfl) rfl rfl rfl rfl rfl ?_
          refine g_istore hC [(5, .int (nI (HT kd pl bn da x0 pp n))), (0, .ref (x 0)), (1, .int (nI p)), (2, .int (nI x0)), (3, .int (nI pp)), (4, .int (nI c))] dX11_trippers_48 (by decide) rfl ?_
          refine g_lconst (v := 1) hC dX11_trippers_50 (by decide) ?_
          refine g_lstore hC [(6, .long 1), (5, .int (nI (HT kd pl bn da x0 pp n))), (0, .ref (x 0)), (1, .int (nI p)), (2, .int (nI x0)), (3, .int (nI pp)), (4, .int (nI c))] dX11_trippers_51 (by decide) rfl ?_
          refine g_lconst (v := 1) hC dX11_trippers_53 (by decide) ?_
          refine g_lstore hC [(8, .long 1), (6, .long 1), (5, .int (nI (HT kd pl bn da x0 pp n))), (0, .ref (x 0)), (1, .int (nI p)), (2, .int (nI x0)), (3, .int (nI pp)), (4, .int (nI c))] dX11_trippers_54 (by decide) rfl ?_
          refine g_iload hC dX11_trippers_56 2 rfl ?_
          refine g_callS hC (f_J6_bitCount_0f7a4 (kl K) E (HT kd pl bn da x0 pp n) (by omega)) wJ6_bitCount_0f7a4 m3_11 dX11_trippers_58 [] [(x 0, .inr (11, oL x h dr)), (x 7, .inr (6, oG x)), (x 8, .inl (E.2.1 4, 6, .inr (.inr (.inr (.inr (fun j => some (x (14 + j)))))))), (x 14, .inr (7, [])), (x 15, .inr (0, [])), (x 16, .inr (3, [])), (x 17, .inr (1, [])), (x 18, .inr (9, [])), (x 19, .inr (2, [])), (x 9, .inl (E.2.1 0, 10, .inl (nf (un ao pp (hB kd pl pp da true false n))))), (x 10, .inl (E.2.1 0, 10, .inl (nf (un at1 pp (hB kd pl pp da false false n))))), (x 11, .inl (E.2.1 0, 10, .inl (nf (un an pp (hB kd pl pp da false true n))))), (h 0, .inr (5, oH h da (nI n) de no pa)), (h 1, .inl (E.2.1 0, 7, .inl (nf kd))), (h 2, .inl (E.2.1 0, 7, .inl (nf pl))), (h 3, .inl (E.2.1 0, 7, .inl (nf bn))), (x 6, .inr (4, oF x ab be))] (by decide) rfl (Nat.le_of_ble_eq_true rfl) rfl rfl rfl rfl rfl ?_
          refine g_istore hC [(10, .int (nI (ct (HT kd pl bn da x0 pp n).testBit 31))), (8, .long 1), (6, .long 1), (5, .int (nI (HT kd pl bn da x0 pp n))), (0, .ref (x 0)), (1, .int (nI p)), (2, .int (nI x0)), (3, .int (nI pp)), (4, .int (nI c))] dX11_trippers_61 (by decide) rfl ?_
          have L_63 : ∀ (fu : Nat) (j : Nat) (hj : j ≤ ct (HT kd pl bn da x0 pp n).testBit 31), j < fu → G K E 12 [(x 0, .inr (11, oL x h dr)), (x 7, .inr (6, oG x)), (x 8, .inl (E.2.1 4, 6, .inr (.inr (.inr (.inr (fun j => some (x (14 + j)))))))), (x 14, .inr (7, [])), (x 15, .inr (0, [])), (x 16, .inr (3, [])), (x 17, .inr (1, [])), (x 18, .inr (9, [])), (x 19, .inr (2, [])), (x 9, .inl (E.2.1 0, 10, .inl (nf (un ao pp (hB kd pl pp da true false n))))), (x 10, .inl (E.2.1 0, 10, .inl (nf (un at1 pp (hB kd pl pp da false false n))))), (x 11, .inl (E.2.1 0, 10, .inl (nf (un an pp (hB kd pl pp da false true n))))), (h 0, .inr (5, oH h da (nI n) de no pa)), (h 1, .inl (E.2.1 0, 7, .inl (nf kd))), (h 2, .inl (E.2.1 0, 7, .inl (nf pl))), (h 3, .inl (E.2.1 0, 7, .inl (nf bn))), (x 6, .inr (4, oF x ab be))] [(10, .int (nI j)), (6, .long (lN (10 ^ (ct (HT kd pl bn da x0 pp n).testBit 31 - j)))), (8, .long (lN (c ^ (ct (HT kd pl bn da x0 pp n).testBit 31 - j)))), (5, .int (nI (HT kd pl bn da x0 pp n))), (0, .ref (x 0)), (1, .int (nI p)), (2, .int (nI x0)), (4, .int (nI c))] 63 [] := by
            intro fu
            induction fu with
            | zero => intro j hj hm_63; exact absurd hm_63 (Nat.not_lt_zero _)
            | succ fu ih_63 =>
              intro j hj hm_63
              refine g_iload hC dX11_trippers_63 0 rfl ?_
              refine g_if_leN (tgt := 90) hC dX11_trippers_65 (by decide) (by omega) (fun h_65 => ?_) (fun h_65 => ?_)
              · have hj0 : ct (HT kd pl bn da x0 pp n).testBit 31 - j = ct (HT kd pl bn da x0 pp n).testBit 31 := by omega
                have htr := trC_lt (T := HT kd pl bn da x0 pp n) (bx := bn x0) (p := p) (c := c) (m := ct (HT kd pl bn da x0 pp n).testBit 31 - j) (by omega) (by omega)
                have hp10 : 0 < 10 ^ (ct (HT kd pl bn da x0 pp n).testBit 31 - j) := Nat.pow_pos (by decide)
                refine g_iload hC dX11_trippers_90 3 rfl ?_
                refine g_iload_n hC dX11_trippers_92 rfl 5 rfl ?_
                refine g_callS hC (f_X11_bit (kl K) E (HT kd pl bn da x0 pp n) p (by omega) (by omega)) wX11_bit m3_97 dX11_trippers_93 [] [(x 0, .inr (11, oL x h dr)), (x 7, .inr (6, oG x)), (x 8, .inl (E.2.1 4, 6, .inr (.inr (.inr (.inr (fun j => some (x (14 + j)))))))), (x 14, .inr (7, [])), (x 15, .inr (0, [])), (x 16, .inr (3, [])), (x 17, .inr (1, [])), (x 18, .inr (9, [])), (x 19, .inr (2, [])), (x 9, .inl (E.2.1 0, 10, .inl (nf (un ao pp (hB kd pl pp da true false n))))), (x 10, .inl (E.2.1 0, 10, .inl (nf (un at1 pp (hB kd pl pp da false false n))))), (x 11, .inl (E.2.1 0, 10, .inl (nf (un an pp (hB kd pl pp da false true n))))), (h 0, .inr (5, oH h da (nI n) de no pa)), (h 1, .inl (E.2.1 0, 7, .inl (nf kd))), (h 2, .inl (E.2.1 0, 7, .inl (nf pl))), (h 3, .inl (E.2.1 0, 7, .inl (nf bn))), (x 6, .inr (4, oF x ab be))] (by decide) rfl (Nat.le_of_ble_eq_true rfl) rfl rfl rfl rfl rfl ?_
                refine g_bipush (v := (nI 10)) hC dX11_trippers_96 (by decide) ?_
                refine g_iload hC dX11_trippers_98 7 rfl ?_
                refine g_isubN hC dX11_trippers_100 (by omega) ?_
                refine g_imul hC dX11_trippers_101 ?_
                refine g_val (v' := .int (nI (if (HT kd pl bn da x0 pp n).testBit p then 10 - c else 0))) (by rw [bI_mul]) ?_
                refine g_i2l hC dX11_trippers_102 ?_
                refine g_lload hC dX11_trippers_103 1 rfl ?_
                refine g_ldc2 (v := 10) hC dX11_trippers_105 m3_146 ?_
                refine g_ldiv hC dX11_trippers_108 (by decide) ?_
                refine g_lmul hC dX11_trippers_109 ?_
                refine g_lstore hC [(10, .long ((nI (if (HT kd pl bn da x0 pp n).testBit p then 10 - c else 0)).toInt64 * ((lN (10 ^ (ct (HT kd pl bn da x0 pp n).testBit 31 - j))) / 10))), (6, .long (lN (10 ^ (ct (HT kd pl bn da x0 pp n).testBit 31 - j)))), (8, .long (lN (c ^ (ct (HT kd pl bn da x0 pp n).testBit 31 - j)))), (5, .int (nI (HT kd pl bn da x0 pp n))), (0, .ref (x 0)), (1, .int (nI p)), (2, .int (nI x0)), (4, .int (nI c))] dX11_trippers_110 (by decide) rfl ?_
                refine g_lload hC dX11_trippers_112 0 rfl ?_
                refine g_aload_n hC dX11_trippers_114 rfl 4 rfl ?_
                refine g_get hC 0 11 0 inX11 m1_221 dX11_trippers_115 rfl rfl (by decide) rfl ?_
                refine g_get hC 12 5 4 inX5 m1_52 dX11_trippers_118 rfl rfl (by decide) rfl ?_
                refine g_iload_n hC dX11_trippers_121 rfl 6 rfl ?_
                refine g_ialdN hC 15 dX11_trippers_122 rfl (by decide) (by omega) ?_
                refine g_val (v' := .int (nI (bn x0))) rfl ?_
                refine g_iload_n hC dX11_trippers_123 rfl 5 rfl ?_
                refine g_callS hC (f_X11_bit (kl K) E (bn x0) p (by omega) (by omega)) wX11_bit m3_97 dX11_trippers_124 [] [(x 0, .inr (11, oL x h dr)), (x 7, .inr (6, oG x)), (x 8, .inl (E.2.1 4, 6, .inr (.inr (.inr (.inr (fun j => some (x (14 + j)))))))), (x 14, .inr (7, [])), (x 15, .inr (0, [])), (x 16, .inr (3, [])), (x 17, .inr (1, [])), (x 18, .inr (9, [])), (x 19, .inr (2, [])), (x 9, .inl (E.2.1 0, 10, .inl (nf (un ao pp (hB kd pl pp da true false n))))), (x 10, .inl (E.2.1 0, 10, .inl (nf (un at1 pp (hB kd pl pp da false false n))))), (x 11, .inl (E.2.1 0, 10, .inl (nf (un an pp (hB kd pl pp da false true n))))), (h 0, .inr (5, oH h da (nI n) de no pa)), (h 1, .inl (E.2.1 0, 7, .inl (nf kd))), (h 2, .inl (E.2.1 0, 7, .inl (nf pl))), (h 3, .inl (E.2.1 0, 7, .inl (nf bn))), (x 6, .inr (4, oF x ab be))] (by decide) rfl (Nat.le_of_ble_eq_true rfl) rfl rfl rfl rfl rfl ?_
                refine g_i2l hC dX11_trippers_127 ?_
                refine g_lload hC dX11_trippers_128 2 rfl ?_
                refine g_lmul hC dX11_trippers_130 ?_
                refine g_ladd hC dX11_trippers_131 ?_
                refine g_val (v' := .long (lN (trC (HT kd pl bn da x0 pp n) (bn x0) p c (ct (HT kd pl bn da x0 pp n).testBit 31 - j)))) (by rw [nI_l (by split <;> omega), bI_l, show (10 : Int64) = lN 10 from rfl, pk_lDiv (by omega) (by decide) (by decide), lN_mul, lN_mul, lN_add]; rfl) ?_
                refine g_lstore hC [(10, .long (lN (trC (HT kd pl bn da x0 pp n) (bn x0) p c (ct (HT kd pl bn da x0 pp n).testBit 31 - j)))), (6, .long (lN (10 ^ (ct (HT kd pl bn da x0 pp n).testBit 31 - j)))), (8, .long (lN (c ^ (ct (HT kd pl bn da x0 pp n).testBit 31 - j)))), (5, .int (nI (HT kd pl bn da x0 pp n))), (0, .ref (x 0)), (1, .int (nI p)), (2, .int (nI x0)), (4, .int (nI c))] dX11_trippers_132 (by decide) rfl ?_
                refine g_aload_n hC dX11_trippers_134 rfl 4 rfl ?_
                refine g_get hC 0 11 5 inX11 m1_226 dX11_trippers_135 rfl rfl (by decide) rfl ?_
                refine g_lload hC dX11_trippers_138 0 rfl ?_
                refine g_lload hC dX11_trippers_140 1 rfl ?_
                refine g_callV hC (f_X4_become (kl K) E x ab be (trC (HT kd pl bn da x0 pp n) (bn x0) p c (ct (HT kd pl bn da x0 pp n).testBit 31 - j)) (10 ^ (ct (HT kd pl bn da x0 pp n).testBit 31 - j)) (by omega) (by omega) (by omega)) wX4_become m3_75 dX11_trippers_142 [16] [(x 0, .inr (11, oL x h dr)), (x 7, .inr (6, oG x)), (x 8, .inl (E.2.1 4, 6, .inr (.inr (.inr (.inr (fun j => some (x (14 + j)))))))), (x 14, .inr (7, [])), (x 15, .inr (0, [])), (x 16, .inr (3, [])), (x 17, .inr (1, [])), (x 18, .inr (9, [])), (x 19, .inr (2, [])), (x 9, .inl (E.2.1 0, 10, .inl (nf (un ao pp (hB kd pl pp da true false n))))), (x 10, .inl (E.2.1 0, 10, .inl (nf (un at1 pp (hB kd pl pp da false false n))))), (x 11, .inl (E.2.1 0, 10, .inl (nf (un an pp (hB kd pl pp da false true n))))), (h 0, .inr (5, oH h da (nI n) de no pa)), (h 1, .inl (E.2.1 0, 7, .inl (nf kd))), (h 2, .inl (E.2.1 0, 7, .inl (nf pl))), (h 3, .inl (E.2.1 0, 7, .inl (nf bn))), (x 6, .inr (4, oF x (lN ((trC (HT kd pl bn da x0 pp n) (bn x0) p c (ct (HT kd pl bn da x0 pp n).testBit 31 - j)) / Nat.gcd (trC (HT kd pl bn da x0 pp n) (bn x0) p c (ct (HT kd pl bn da x0 pp n).testBit 31 - j)) (10 ^ (ct (HT kd pl bn da x0 pp n).testBit 31 - j)))) (lN ((10 ^ (ct (HT kd pl bn da x0 pp n).testBit 31 - j)) / Nat.gcd (trC (HT kd pl bn da x0 pp n) (bn x0) p c (ct (HT kd pl bn da x0 pp n).testBit 31 - j)) (10 ^ (ct (HT kd pl bn da x0 pp n).testBit 31 - j))))))] 16 4 rfl rfl (by decide) rfl (Nat.le_of_ble_eq_true rfl) rfl rfl rfl rfl rfl ?_
                refine g_iconst (v := (nI 1)) hC dX11_trippers_145 (by decide) ?_
                exact g_val (rfl) (g_ws (by rw [hj0]) (hR _ _ dX11_trippers_146))
              · refine g_lload hC dX11_trippers_68 1 rfl ?_
                refine g_ldc2 (v := 10) hC dX11_trippers_70 m3_146 ?_
                refine g_lmul hC dX11_trippers_73 ?_
                refine g_val (v' := .long (lN (10 ^ (ct (HT kd pl bn da x0 pp n).testBit 31 - (j - 1))))) (by rw [lmul10, show ct (HT kd pl bn da x0 pp n).testBit 31 - j + 1 = ct (HT kd pl bn da x0 pp n).testBit 31 - (j - 1) by omega]) ?_
                refine g_lstore hC [(6, .long (lN (10 ^ (ct (HT kd pl bn da x0 pp n).testBit 31 - (j - 1))))), (10, .int (nI j)), (8, .long (lN (c ^ (ct (HT kd pl bn da x0 pp n).testBit 31 - j)))), (5, .int (nI (HT kd pl bn da x0 pp n))), (0, .ref (x 0)), (1, .int (nI p)), (2, .int (nI x0)), (4, .int (nI c))] dX11_trippers_74 (by decide) rfl ?_
                refine g_lload hC dX11_trippers_76 2 rfl ?_
                refine g_iload hC dX11_trippers_78 7 rfl ?_
                refine g_i2l hC dX11_trippers_80 ?_
                refine g_lmul hC dX11_trippers_81 ?_
                refine g_val (v' := .long (lN (c ^ (ct (HT kd pl bn da x0 pp n).testBit 31 - (j - 1))))) (by rw [nI_l (by omega), lN_mul, pw_step (by omega) hj]) ?_
                refine g_lstore hC [(8, .long (lN (c ^ (ct (HT kd pl bn da x0 pp n).testBit 31 - (j - 1))))), (6, .long (lN (10 ^ (ct (HT kd pl bn da x0 pp n).testBit 31 - (j - 1))))), (10, .int (nI j)), (5, .int (nI (HT kd pl bn da x0 pp n))), (0, .ref (x 0)), (1, .int (nI p)), (2, .int (nI x0)), (4, .int (nI c))] dX11_trippers_82 (by decide) rfl ?_
                refine g_iincD hC (q := 2) 1 [(10, .int (nI (j - 1))), (8, .long (lN (c ^ (ct (HT kd pl bn da x0 pp n).testBit 31 - (j - 1))))), (6, .long (lN (10 ^ (ct (HT kd pl bn da x0 pp n).testBit 31 - (j - 1))))), (5, .int (nI (HT kd pl bn da x0 pp n))), (0, .ref (x 0)), (1, .int (nI p)), (2, .int (nI x0)), (4, .int (nI c))] dX11_trippers_84 rfl rfl (by omega) (by decide) rfl ?_
                refine g_goto (tgt := 63) hC dX11_trippers_87 (by decide) ?_
                refine g_lv (lv' := [(10, .int (nI (j - 1))), (6, .long (lN (10 ^ (ct (HT kd pl bn da x0 pp n).testBit 31 - (j - 1))))), (8, .long (lN (c ^ (ct (HT kd pl bn da x0 pp n).testBit 31 - (j - 1))))), (5, .int (nI (HT kd pl bn da x0 pp n))), (0, .ref (x 0)), (1, .int (nI p)), (2, .int (nI x0)), (4, .int (nI c))]) [0, 2, 1, 3, 4, 5, 6, 7] rfl ?_
                exact ih_63 (j - 1) (by omega) (by omega)
          refine g_lv (lv' := [(10, .int (nI (ct (HT kd pl bn da x0 pp n).testBit 31))), (6, .long 1), (8, .long 1), (5, .int (nI (HT kd pl bn da x0 pp n))), (0, .ref (x 0)), (1, .int (nI p)), (2, .int (nI x0)), (4, .int (nI c))]) [0, 2, 1, 3, 4, 5, 6, 8] rfl ?_
          refine g_lve (lv' := [(10, .int (nI (ct (HT kd pl bn da x0 pp n).testBit 31))), (6, .long (lN (10 ^ (ct (HT kd pl bn da x0 pp n).testBit 31 - (ct (HT kd pl bn da x0 pp n).testBit 31))))), (8, .long (lN (c ^ (ct (HT kd pl bn da x0 pp n).testBit 31 - (ct (HT kd pl bn da x0 pp n).testBit 31))))), (5, .int (nI (HT kd pl bn da x0 pp n))), (0, .ref (x 0)), (1, .int (nI p)), (2, .int (nI x0)), (4, .int (nI c))]) (by rw [Nat.sub_self]; rfl) ?_
          exact L_63 ((ct (HT kd pl bn da x0 pp n).testBit 31) + 1) (ct (HT kd pl bn da x0 pp n).testBit 31) (by omega) (Nat.lt_succ_self _)
        · exact Bool.noConfusion ((inB_ok (by omega) (by omega)).symm.trans h_32)
set_option maxHeartbeats 600000 in
set_option maxRecDepth 100000 in
theorem f_X11_weeks_ok (l : Launch) (E : Ew) (x : Nat → Nat) (h : Nat → Nat) (dr : Nat → Nat) (da : Int32) (de : Int32) (no : Int32) (pa : Int32) (n : Nat) (kd : Nat → Nat) (pl : Nat → Nat) (bn : Nat → Nat) (ao : Nat → Nat) (at1 : Nat → Nat) (an : Nat → Nat) (fw : Int32) (ft : Int32) (mt : Int32) (bh : Nat → Nat) (s : Nat) (w : Nat) (hn7 : n ≤ 7) (hkd : ∀ p, p < n → kd p < 6) (hpl : ∀ p, p < n → pl p < 10) (hb : ∀ j, j < 7 → bn j < 128) (hn0 : 0 < n) (hs : s < 1000000) (hw : w < 61) : Fn l E 6 yX11_weeks cX11_weeks 3 (some .int) [.ref (x 0), .int (nI s), .int (nI w)] [(x 0, .inr (11, oL x h dr)), (x 7, .inr (6, oG x)), (x 8, .inl (E.2.1 4, 6, .inr (.inr (.inr (.inr (fun j => some (x (14 + j)))))))), (x 14, .inr (7, [])), (x 15, .inr (0, [])), (x 16, .inr (3, [])), (x 17, .inr (1, [])), (x 18, .inr (9, [])), (x 19, .inr (2, [])), (x 9, .inl (E.2.1 0, 10, .inl (nf ao))), (x 10, .inl (E.2.1 0, 10, .inl (nf at1))), (x 11, .inl (E.2.1 0, 10, .inl (nf an))), (h 0, .inr (5, oH h da (nI n) de no pa)), (h 1, .inl (E.2.1 0, 7, .inl (nf kd))), (h 2, .inl (E.2.1 0, 7, .inl (nf pl))), (h 3, .inl (E.2.1 0, 7, .inl (nf bn))), (x 12, .inr (8, oS x fw ft mt)), (x 13, .inl (E.2.1 0, 7, .inl (nf bh)))] (some (.int (nI (ct (owS (wB (hL kd pl da true false n ao 10) (hL kd pl da false false n at1 10) (hL kd pl da false true n an 10) bn n s w)).testBit 31)))) [(x 0, .inr (11, oL x h dr)), (x 7, .inr (6, oG x)), (x 8, .inl (E.2.1 4, 6, .inr (.inr (.inr (.inr (fun j => some (x (14 + j)))))))), (x 14, .inr (7, [])), (x 15, .inr (0, [])), (x 16, .inr (3, [])), (x 17, .inr (1, [])), (x 18, .inr (9, [])), (x 19, .inr (2, [])), (x 9, .inl (E.2.1 0, 10, .inl (nf (hL kd pl da true false n ao 10)))), (x 10, .inl (E.2.1 0, 10, .inl (nf (hL kd pl da false false n at1 10)))), (x 11, .inl (E.2.1 0, 10, .inl (nf (hL kd pl da false true n an 10)))), (h 0, .inr (5, oH h da (nI n) de no pa)), (h 1, .inl (E.2.1 0, 7, .inl (nf kd))), (h 2, .inl (E.2.1 0, 7, .inl (nf pl))), (h 3, .inl (E.2.1 0, 7, .inl (nf bn))), (x 12, .inr (8, oS x fw ft mt)), (x 13, .inl (E.2.1 0, 7, .inl (nf (wB (hL kd pl da true false n ao 10) (hL kd pl da false false n at1 10) (hL kd pl da false true n an 10) bn n s w))))] := by
  refine fn_I (by decide) (Nat.le_of_ble_eq_true rfl) rfl ?_
  intro K hC hR
  show G K E 3 [(x 0, .inr (11, oL x h dr)), (x 7, .inr (6, oG x)), (x 8, .inl (E.2.1 4, 6, .inr (.inr (.inr (.inr (fun j => some (x (14 + j)))))))), (x 14, .inr (7, [])), (x 15, .inr (0, [])), (x 16, .inr (3, [])), (x 17, .inr (1, [])), (x 18, .inr (9, [])), (x 19, .inr (2, [])), (x 9, .inl (E.2.1 0, 10, .inl (nf ao))), (x 10, .inl (E.2.1 0, 10, .inl (nf at1))), (x 11, .inl (E.2.1 0, 10, .inl (nf an))), (h 0, .inr (5, oH h da (nI n) de no pa)), (h 1, .inl (E.2.1 0, 7, .inl (nf kd))), (h 2, .inl (E.2.1 0, 7, .inl (nf pl))), (h 3, .inl (E.2.1 0, 7, .inl (nf bn))), (x 12, .inr (8, oS x fw ft mt)), (x 13, .inl (E.2.1 0, 7, .inl (nf bh)))] [(0, .ref (x 0)), (1, .int (nI s)), (2, .int (nI w))] 0 []
  refine g_iload_n hC dX11_weeks_0 rfl 1 rfl ?_
  refine g_ldc (v := nI 1000000) hC dX11_weeks_1 m3_151 ?_
  refine g_callS hC (f_X11_within (kl K) E (nI s) 1000000 (by omega)) wX11_within m2_13 dX11_weeks_3 [] [(x 0, .inr (11, oL x h dr)), (x 7, .inr (6, oG x)), (x 8, .inl (E.2.1 4, 6, .inr (.inr (.inr (.inr (fun j => some (x (14 + j)))))))), (x 14, .inr (7, [])), (x 15, .inr (0, [])), (x 16, .inr (3, [])), (x 17, .inr (1, [])), (x 18, .inr (9, [])), (x 19, .inr (2, [])), (x 9, .inl (E.2.1 0, 10, .inl (nf ao))), (x 10, .inl (E.2.1 0, 10, .inl (nf at1))), (x 11, .inl (E.2.1 0, 10, .inl (nf an))), (h 0, .inr (5, oH h da (nI n) de no pa)), (h 1, .inl (E.2.1 0, 7, .inl (nf kd))), (h 2, .inl (E.2.1 0, 7, .inl (nf pl))), (h 3, .inl (E.2.1 0, 7, .inl (nf bn))), (x 12, .inr (8, oS x fw ft mt)), (x 13, .inl (E.2.1 0, 7, .inl (nf bh)))] (by decide) rfl (Nat.le_of_ble_eq_true rfl) rfl rfl rfl rfl rfl ?_
  refine g_if_eqB (tgt := 18) hC dX11_weeks_6 (by decide) (fun h_6 => ?_) (fun h_6 => ?_)
  · exact Bool.noConfusion ((inB_ok (by omega) (by omega)).symm.trans h_6)
  · refine g_iload_n hC dX11_weeks_9 rfl 2 rfl ?_
    refine g_bipush (v := (nI 61)) hC dX11_weeks_10 (by decide) ?_
    refine g_callS hC (f_X11_within (kl K) E (nI w) 61 (by omega)) wX11_within m2_13 dX11_weeks_12 [] [(x 0, .inr (11, oL x h dr)), (x 7, .inr (6, oG x)), (x 8, .inl (E.2.1 4, 6, .inr (.inr (.inr (.inr (fun j => some (x (14 + j)))))))), (x 14, .inr (7, [])), (x 15, .inr (0, [])), (x 16, .inr (3, [])), (x 17, .inr (1, [])), (x 18, .inr (9, [])), (x 19, .inr (2, [])), (x 9, .inl (E.2.1 0, 10, .inl (nf ao))), (x 10, .inl (E.2.1 0, 10, .inl (nf at1))), (x 11, .inl (E.2.1 0, 10, .inl (nf an))), (h 0, .inr (5, oH h da (nI n) de no pa)), (h 1, .inl (E.2.1 0, 7, .inl (nf kd))), (h 2, .inl (E.2.1 0, 7, .inl (nf pl))), (h 3, .inl (E.2.1 0, 7, .inl (nf bn))), (x 12, .inr (8, oS x fw ft mt)), (x 13, .inl (E.2.1 0, 7, .inl (nf bh)))] (by decide) rfl (Nat.le_of_ble_eq_true rfl) rfl rfl rfl rfl rfl ?_
    refine g_if_neB (tgt := 25) hC dX11_weeks_15 (by decide) (fun h_15 => ?_) (fun h_15 => ?_)
    · refine g_aload_n hC dX11_weeks_25 rfl 0 rfl ?_
      refine g_get hC 0 11 0 inX11 m1_221 dX11_weeks_26 rfl rfl (by decide) rfl ?_
      refine g_get hC 12 5 1 inX5 m1_40 dX11_weeks_29 rfl rfl (by decide) rfl ?_
      refine g_if_neN (tgt := 42) hC dX11_weeks_32 (by decide) (by omega) (fun h_32 => ?_) (fun h_32 => ?_)
      · refine g_aload_n hC dX11_weeks_42 rfl 0 rfl ?_
        refine g_get hC 0 11 6 inX11 m1_227 dX11_weeks_43 rfl rfl (by decide) rfl ?_
        refine g_aload_n hC dX11_weeks_46 rfl 0 rfl ?_
        refine g_get hC 0 11 0 inX11 m1_221 dX11_weeks_47 rfl rfl (by decide) rfl ?_
        refine g_callV hC (f_X6_listen (kl K) E x h da de no pa n kd pl ao at1 an (by omega) (hkd) (hpl)) wX6_listen m3_21 dX11_weeks_50 [1, 2, 3, 4, 5, 6, 7, 8, 9, 10, 11, 12, 13, 14] [(x 0, .inr (11, oL x h dr)), (x 7, .inr (6, oG x)), (x 8, .inl (E.2.1 4, 6, .inr (.inr (.inr (.inr (fun j => some (x (14 + j)))))))), (x 14, .inr (7, [])), (x 15, .inr (0, [])), (x 16, .inr (3, [])), (x 17, .inr (1, [])), (x 18, .inr (9, [])), (x 19, .inr (2, [])), (x 9, .inl (E.2.1 0, 10, .inl (nf (hL kd pl da true false n ao 10)))), (x 10, .inl (E.2.1 0, 10, .inl (nf (hL kd pl da false false n at1 10)))), (x 11, .inl (E.2.1 0, 10, .inl (nf (hL kd pl da false true n an 10)))), (h 0, .inr (5, oH h da (nI n) de no pa)), (h 1, .inl (E.2.1 0, 7, .inl (nf kd))), (h 2, .inl (E.2.1 0, 7, .inl (nf pl))), (h 3, .inl (E.2.1 0, 7, .inl (nf bn))), (x 12, .inr (8, oS x fw ft mt)), (x 13, .inl (E.2.1 0, 7, .inl (nf bh)))] 1 6 rfl rfl (by decide) rfl (Nat.le_of_ble_eq_true rfl) rfl rfl rfl rfl rfl ?_
        refine g_aload_n hC dX11_weeks_53 rfl 0 rfl ?_
        refine g_get hC 0 11 7 inX11 m1_228 dX11_weeks_54 rfl rfl (by decide) rfl ?_
        refine g_aload_n hC dX11_weeks_57 rfl 0 rfl ?_
        refine g_get hC 0 11 0 inX11 m1_221 dX11_weeks_58 rfl rfl (by decide) rfl ?_
        refine g_aload_n hC dX11_weeks_61 rfl 0 rfl ?_
        refine g_get hC 0 11 6 inX11 m1_227 dX11_weeks_62 rfl rfl (by decide) rfl ?_
        refine g_iload_n hC dX11_weeks_65 rfl 1 rfl ?_
        refine g_iload_n hC dX11_weeks_66 rfl 2 rfl ?_
        refine g_callV hC (f_X8_ownersBehindWeeks (kl K) E x fw ft mt bh h da de no pa n bn (hL kd pl da true false n ao 10) (hL kd pl da false false n at1 10) (hL kd pl da false true n an 10) s w (by omega) (fun p hp => ⟨hL_128 hn7 hp, hL_128 hn7 hp, hL_128 hn7 hp⟩) (hb) (by omega) (by omega) (by omega)) wX8_ownersBehindWeeks m3_152 dX11_weeks_67 [16, 17, 1, 9, 10, 11, 12, 15] [(x 0, .inr (11, oL x h dr)), (x 7, .inr (6, oG x)), (x 8, .inl (E.2.1 4, 6, .inr (.inr (.inr (.inr (fun j => some (x (14 + j)))))))), (x 14, .inr (7, [])), (x 15, .inr (0, [])), (x 16, .inr (3, [])), (x 17, .inr (1, [])), (x 18, .inr (9, [])), (x 19, .inr (2, [])), (x 9, .inl (E.2.1 0, 10, .inl (nf (hL kd pl da true false n ao 10)))), (x 10, .inl (E.2.1 0, 10, .inl (nf (hL kd pl da false false n at1 10)))), (x 11, .inl (E.2.1 0, 10, .inl (nf (hL kd pl da false true n an 10)))), (h 0, .inr (5, oH h da (nI n) de no pa)), (h 1, .inl (E.2.1 0, 7, .inl (nf kd))), (h 2, .inl (E.2.1 0, 7, .inl (nf pl))), (h 3, .inl (E.2.1 0, 7, .inl (nf bn))), (x 12, .inr (8, oS x fw ft mt)), (x 13, .inl (E.2.1 0, 7, .inl (nf (wB (hL kd pl da true false n ao 10) (hL kd pl da false false n at1 10) (hL kd pl da false true n an 10) bn n s w))))] 16 8 rfl rfl (by decide) rfl (Nat.le_of_ble_eq_true rfl) rfl rfl rfl rfl rfl ?_
        exact g_val (rfl) (g_ws (rfl) (hR _ _ dX11_weeks_70))
      · omega
    · exact Bool.noConfusion ((inB_ok (by omega) (by omega)).symm.trans h_15)
set_option maxHeartbeats 600000 in
set_option maxRecDepth 100000 in
theorem f_X11_weeks_no (l : Launch) (E : Ew) (x : Nat → Nat) (h : Nat → Nat) (dr : Nat → Nat) (da : Int32) (de : Int32) (no : Int32) (pa : Int32) (r : Nat → Int32) (s : Nat) (w : Nat) (hs : s < 1000000) (hw : w < 61) : Fn l E 2 yX11_weeks cX11_weeks 3 (some .int) [.ref (x 0), .int (nI s), .int (nI w)] [(x 0, .inr (11, oL x h dr)), (h 0, .inr (5, oH h da (nI 0) de no pa)), (x 3, .inl (E.2.1 0, 3, .inl r))] (some (.int (-3))) [(x 0, .inr (11, oL x h dr)), (h 0, .inr (5, oH h da (nI 0) de no pa)), (x 3, .inl (E.2.1 0, 3, .inl (upd r 1 (r 1 + nI 1))))] := by
  refine fn_I (by decide) (Nat.le_of_ble_eq_true rfl) rfl ?_
  intro K hC hR
  show G K E 3 [(x 0, .inr (11, oL x h dr)), (h 0, .inr (5, oH h da (nI 0) de no pa)), (x 3, .inl (E.2.1 0, 3, .inl r))] [(0, .ref (x 0)), (1, .int (nI s)), (2, .int (nI w))] 0 []
  refine g_iload_n hC dX11_weeks_0 rfl 1 rfl ?_
  refine g_ldc (v := nI 1000000) hC dX11_weeks_1 m3_151 ?_
  refine g_callS hC (f_X11_within (kl K) E (nI s) 1000000 (by omega)) wX11_within m2_13 dX11_weeks_3 [] [(x 0, .inr (11, oL x h dr)), (h 0, .inr (5, oH h da (nI 0) de no pa)), (x 3, .inl (E.2.1 0, 3, .inl r))] (by decide) rfl (Nat.le_of_ble_eq_true rfl) rfl rfl rfl rfl rfl ?_
  refine g_if_eqB (tgt := 18) hC dX11_weeks_6 (by decide) (fun h_6 => ?_) (fun h_6 => ?_)
  · exact Bool.noConfusion ((inB_ok (by omega) (by omega)).symm.trans h_6)
  · refine g_iload_n hC dX11_weeks_9 rfl 2 rfl ?_
    refine g_bipush (v := (nI 61)) hC dX11_weeks_10 (by decide) ?_
    refine g_callS hC (f_X11_within (kl K) E (nI w) 61 (by omega)) wX11_within m2_13 dX11_weeks_12 [] [(x 0, .inr (11, oL x h dr)), (h 0, .inr (5, oH h da (nI 0) de no pa)), (x 3, .inl (E.2.1 0, 3, .inl r))] (by decide) rfl (Nat.le_of_ble_eq_true rfl) rfl rfl rfl rfl rfl ?_
    refine g_if_neB (tgt := 25) hC dX11_weeks_15 (by decide) (fun h_15 => ?_) (fun h_15 => ?_)
    · refine g_aload_n hC dX11_weeks_25 rfl 0 rfl ?_
      refine g_get hC 0 11 0 inX11 m1_221 dX11_weeks_26 rfl rfl (by decide) rfl ?_
      refine g_get hC 1 5 1 inX5 m1_40 dX11_weeks_29 rfl rfl (by decide) rfl ?_
      refine g_if_neN (tgt := 42) hC dX11_weeks_32 (by decide) (by omega) (fun h_32 => ?_) (fun h_32 => ?_)
      · omega
      · refine g_aload_n hC dX11_weeks_35 rfl 0 rfl ?_
        refine g_bipush (v := (-3)) hC dX11_weeks_36 (by decide) ?_
        refine g_callV hC (f_X11_refuse_no (kl K) E x h dr r) wX11_refuse m2_16 dX11_weeks_38 [0, 2] [(x 0, .inr (11, oL x h dr)), (h 0, .inr (5, oH h da (nI 0) de no pa)), (x 3, .inl (E.2.1 0, 3, .inl (upd r 1 (r 1 + nI 1))))] 0 11 rfl rfl (by decide) rfl (Nat.le_of_ble_eq_true rfl) rfl rfl rfl rfl rfl ?_
        exact g_val (rfl) (g_ws (rfl) (hR _ _ dX11_weeks_41))
    · exact Bool.noConfusion ((inB_ok (by omega) (by omega)).symm.trans h_15)
set_option maxHeartbeats 600000 in
set_option maxRecDepth 100000 in
theorem f_X11_weeks_bad (l : Launch) (E : Ew) (x : Nat → Nat) (h : Nat → Nat) (dr : Nat → Nat) (r : Nat → Int32) (s : Int32) (w : Int32) (hb : (inB s 1000000 && inB w 61) = false) : Fn l E 2 yX11_weeks cX11_weeks 3 (some .int) [.ref (x 0), .int s, .int w] [(x 0, .inr (11, oL x h dr)), (x 3, .inl (E.2.1 0, 3, .inl r))] (some (.int (-2))) [(x 0, .inr (11, oL x h dr)), (x 3, .inl (E.2.1 0, 3, .inl (upd r 0 (r 0 + nI 1))))] := by
  refine fn_I (by decide) (Nat.le_of_ble_eq_true rfl) rfl ?_
  intro K hC hR
  show G K E 3 [(x 0, .inr (11, oL x h dr)), (x 3, .inl (E.2.1 0, 3, .inl r))] [(0, .ref (x 0)), (1, .int s), (2, .int w)] 0 []
  refine g_iload_n hC dX11_weeks_0 rfl 1 rfl ?_
  refine g_ldc (v := nI 1000000) hC dX11_weeks_1 m3_151 ?_
  refine g_callS hC (f_X11_within (kl K) E s 1000000 (by omega)) wX11_within m2_13 dX11_weeks_3 [] [(x 0, .inr (11, oL x h dr)), (x 3, .inl (E.2.1 0, 3, .inl r))] (by decide) rfl (Nat.le_of_ble_eq_true rfl) rfl rfl rfl rfl rfl ?_
  refine g_if_eqB (tgt := 18) hC dX11_weeks_6 (by decide) (fun h_6 => ?_) (fun h_6 => ?_)
  · refine g_aload_n hC dX11_weeks_18 rfl 0 rfl ?_
    refine g_bipush (v := (-2)) hC dX11_weeks_19 (by decide) ?_
    refine g_callV hC (f_X11_refuse_bad (kl K) E x h dr r) wX11_refuse m2_16 dX11_weeks_21 [0, 1] [(x 0, .inr (11, oL x h dr)), (x 3, .inl (E.2.1 0, 3, .inl (upd r 0 (r 0 + nI 1))))] 0 11 rfl rfl (by decide) rfl (Nat.le_of_ble_eq_true rfl) rfl rfl rfl rfl rfl ?_
    exact g_val (rfl) (g_ws (rfl) (hR _ _ dX11_weeks_24))
  · refine g_iload_n hC dX11_weeks_9 rfl 2 rfl ?_
    refine g_bipush (v := (nI 61)) hC dX11_weeks_10 (by decide) ?_
    refine g_callS hC (f_X11_within (kl K) E w 61 (by omega)) wX11_within m2_13 dX11_weeks_12 [] [(x 0, .inr (11, oL x h dr)), (x 3, .inl (E.2.1 0, 3, .inl r))] (by decide) rfl (Nat.le_of_ble_eq_true rfl) rfl rfl rfl rfl rfl ?_
    refine g_if_neB (tgt := 25) hC dX11_weeks_15 (by decide) (fun h_15 => ?_) (fun h_15 => ?_)
    · exact absurd hb (by simp [h_6, h_15])
    · refine g_aload_n hC dX11_weeks_18 rfl 0 rfl ?_
      refine g_bipush (v := (-2)) hC dX11_weeks_19 (by decide) ?_
      refine g_callV hC (f_X11_refuse_bad (kl K) E x h dr r) wX11_refuse m2_16 dX11_weeks_21 [0, 1] [(x 0, .inr (11, oL x h dr)), (x 3, .inl (E.2.1 0, 3, .inl (upd r 0 (r 0 + nI 1))))] 0 11 rfl rfl (by decide) rfl (Nat.le_of_ble_eq_true rfl) rfl rfl rfl rfl rfl ?_
      exact g_val (rfl) (g_ws (rfl) (hR _ _ dX11_weeks_24))
set_option maxHeartbeats 600000 in
set_option maxRecDepth 100000 in
theorem f_X11_trippers_bad (l : Launch) (E : Ew) (x : Nat → Nat) (h : Nat → Nat) (dr : Nat → Nat) (da : Int32) (de : Int32) (no : Int32) (pa : Int32) (n : Nat) (r : Nat → Int32) (p : Int32) (x0 : Int32) (pp : Int32) (c : Int32) (hn7 : n ≤ 7) (hb : (inB p n && inB x0 n && inB pp 10 && inB c 11) = false) : Fn l E 2 yX11_trippers cX11_trippers 12 (some .int) [.ref (x 0), .int p, .int x0, .int pp, .int c] [(x 0, .inr (11, oL x h dr)), (h 0, .inr (5, oH h da (nI n) de no pa)), (x 3, .inl (E.2.1 0, 3, .inl r))] (some (.int (-2))) [(x 0, .inr (11, oL x h dr)), (h 0, .inr (5, oH h da (nI n) de no pa)), (x 3, .inl (E.2.1 0, 3, .inl (upd r 0 (r 0 + nI 1))))] := by
  refine fn_I (by decide) (Nat.le_of_ble_eq_true rfl) rfl ?_
  intro K hC hR
  show G K E 12 [(x 0, .inr (11, oL x h dr)), (h 0, .inr (5, oH h da (nI n) de no pa)), (x 3, .inl (E.2.1 0, 3, .inl r))] [(0, .ref (x 0)), (1, .int p), (2, .int x0), (3, .int pp), (4, .int c)] 0 []
  refine g_aload_n hC dX11_trippers_0 rfl 0 rfl ?_
  refine g_iload_n hC dX11_trippers_1 rfl 1 rfl ?_
  refine g_callV hC (f_X11_isThere (kl K) E x h dr da de no pa n p (by omega)) wX11_isThere m2_156 dX11_trippers_2 [0, 1] [(x 0, .inr (11, oL x h dr)), (h 0, .inr (5, oH h da (nI n) de no pa)), (x 3, .inl (E.2.1 0, 3, .inl r))] 0 11 rfl rfl (by decide) rfl (Nat.le_of_ble_eq_true rfl) rfl rfl rfl rfl rfl ?_
  refine g_if_eqB (tgt := 35) hC dX11_trippers_5 (by decide) (fun h_5 => ?_) (fun h_5 => ?_)
  · refine g_aload_n hC dX11_trippers_35 rfl 0 rfl ?_
    refine g_bipush (v := (-2)) hC dX11_trippers_36 (by decide) ?_
    refine g_callV hC (f_X11_refuse_bad (kl K) E x h dr r) wX11_refuse m2_16 dX11_trippers_38 [0, 2] [(x 0, .inr (11, oL x h dr)), (h 0, .inr (5, oH h da (nI n) de no pa)), (x 3, .inl (E.2.1 0, 3, .inl (upd r 0 (r 0 + nI 1))))] 0 11 rfl rfl (by decide) rfl (Nat.le_of_ble_eq_true rfl) rfl rfl rfl rfl rfl ?_
    exact g_val (rfl) (g_ws (rfl) (hR _ _ dX11_trippers_41))
  · refine g_aload_n hC dX11_trippers_8 rfl 0 rfl ?_
    refine g_iload_n hC dX11_trippers_9 rfl 2 rfl ?_
    refine g_callV hC (f_X11_isThere (kl K) E x h dr da de no pa n x0 (by omega)) wX11_isThere m2_156 dX11_trippers_10 [0, 1] [(x 0, .inr (11, oL x h dr)), (h 0, .inr (5, oH h da (nI n) de no pa)), (x 3, .inl (E.2.1 0, 3, .inl r))] 0 11 rfl rfl (by decide) rfl (Nat.le_of_ble_eq_true rfl) rfl rfl rfl rfl rfl ?_
    refine g_if_eqB (tgt := 35) hC dX11_trippers_13 (by decide) (fun h_13 => ?_) (fun h_13 => ?_)
    · refine g_aload_n hC dX11_trippers_35 rfl 0 rfl ?_
      refine g_bipush (v := (-2)) hC dX11_trippers_36 (by decide) ?_
      refine g_callV hC (f_X11_refuse_bad (kl K) E x h dr r) wX11_refuse m2_16 dX11_trippers_38 [0, 2] [(x 0, .inr (11, oL x h dr)), (h 0, .inr (5, oH h da (nI n) de no pa)), (x 3, .inl (E.2.1 0, 3, .inl (upd r 0 (r 0 + nI 1))))] 0 11 rfl rfl (by decide) rfl (Nat.le_of_ble_eq_true rfl) rfl rfl rfl rfl rfl ?_
      exact g_val (rfl) (g_ws (rfl) (hR _ _ dX11_trippers_41))
    · refine g_iload_n hC dX11_trippers_16 rfl 3 rfl ?_
      refine g_bipush (v := (nI 10)) hC dX11_trippers_17 (by decide) ?_
      refine g_callS hC (f_X11_within (kl K) E pp 10 (by omega)) wX11_within m2_13 dX11_trippers_19 [] [(x 0, .inr (11, oL x h dr)), (h 0, .inr (5, oH h da (nI n) de no pa)), (x 3, .inl (E.2.1 0, 3, .inl r))] (by decide) rfl (Nat.le_of_ble_eq_true rfl) rfl rfl rfl rfl rfl ?_
      refine g_if_eqB (tgt := 35) hC dX11_trippers_22 (by decide) (fun h_22 => ?_) (fun h_22 => ?_)
      · refine g_aload_n hC dX11_trippers_35 rfl 0 rfl ?_
        refine g_bipush (v := (-2)) hC dX11_trippers_36 (by decide) ?_
        refine g_callV hC (f_X11_refuse_bad (kl K) E x h dr r) wX11_refuse m2_16 dX11_trippers_38 [0, 2] [(x 0, .inr (11, oL x h dr)), (h 0, .inr (5, oH h da (nI n) de no pa)), (x 3, .inl (E.2.1 0, 3, .inl (upd r 0 (r 0 + nI 1))))] 0 11 rfl rfl (by decide) rfl (Nat.le_of_ble_eq_true rfl) rfl rfl rfl rfl rfl ?_
        exact g_val (rfl) (g_ws (rfl) (hR _ _ dX11_trippers_41))
      · refine g_iload hC dX11_trippers_25 4 rfl ?_
        refine g_bipush (v := (nI 11)) hC dX11_trippers_27 (by decide) ?_
        refine g_callS hC (f_X11_within (kl K) E c 11 (by omega)) wX11_within m2_13 dX11_trippers_29 [] [(x 0, .inr (11, oL x h dr)), (h 0, .inr (5, oH h da (nI n) de no pa)), (x 3, .inl (E.2.1 0, 3, .inl r))] (by decide) rfl (Nat.le_of_ble_eq_true rfl) rfl rfl rfl rfl rfl ?_
        refine g_if_neB (tgt := 42) hC dX11_trippers_32 (by decide) (fun h_32 => ?_) (fun h_32 => ?_)
        · exact absurd hb (by simp [h_5, h_13, h_22, h_32])
        · refine g_aload_n hC dX11_trippers_35 rfl 0 rfl ?_
          refine g_bipush (v := (-2)) hC dX11_trippers_36 (by decide) ?_
          refine g_callV hC (f_X11_refuse_bad (kl K) E x h dr r) wX11_refuse m2_16 dX11_trippers_38 [0, 2] [(x 0, .inr (11, oL x h dr)), (h 0, .inr (5, oH h da (nI n) de no pa)), (x 3, .inl (E.2.1 0, 3, .inl (upd r 0 (r 0 + nI 1))))] 0 11 rfl rfl (by decide) rfl (Nat.le_of_ble_eq_true rfl) rfl rfl rfl rfl rfl ?_
          exact g_val (rfl) (g_ws (rfl) (hR _ _ dX11_trippers_41))
