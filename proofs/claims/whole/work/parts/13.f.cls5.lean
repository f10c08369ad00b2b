theorem lt128 {x : Nat} (h : ∀ i, 7 ≤ i → x.testBit i = false) : x < 128 := Nat.lt_pow_two_of_testBit (n := 7) x h
theorem tb128 {x i : Nat} (h : x < 128) (hi : 7 ≤ i) : x.testBit i = false := Nat.testBit_lt_two_pow (Nat.lt_of_lt_of_le h (Nat.pow_le_pow_right (n := 2) (by decide) hi))
theorem andn_128 {t m : Nat} (h : t < 128) : andn t m < 128 := lt128 (fun i hi => by unfold andn; rw [bs_tb, tb128 h hi]; simp)
theorem and_128 {t m : Nat} (h : t < 128) : t &&& m < 128 := Nat.lt_of_le_of_lt Nat.and_le_left h
theorem or_128 {t m : Nat} (h : t < 128) (h2 : m < 128) : t ||| m < 128 := Nat.or_lt_two_pow (n := 7) h h2
theorem htr_128 {ao at1 an bn : Nat → Nat} {x pp : Nat} (h : ao pp < 128 ∧ at1 pp < 128 ∧ an pp < 128) : htr ao at1 an bn x pp < 128 := by
  unfold htr
  split
  · exact h.2.2
  · exact or_128 (and_128 h.1) (andn_128 h.2.1)
theorem stl_128 {bn : Nat → Nat} {x t : Nat} (hb : ∀ j, j < 7 → bn j < 128) (ht : t < 128) : ∀ j, j < 7 → stl bn x t j < 128 := by
  intro j hj
  unfold stl
  split
  · exact hb j hj
  · by_cases e : j = x
    · rw [e, un_s]; exact ht
    · rw [un_n e, if_pos hj]; exact andn_128 (hb j hj)
/-- the bearers by name behind a call of code c -/
def cO (ao at1 an bn : Nat → Nat) (c : Nat) : Nat → Nat := stl bn (c / 10) (htr ao at1 an bn (c / 10) (c % 10))
/-- the first below k, with o before it, or -1 -/
def fo (P : Nat → Bool) (o : Nat) : Nat → Int32
  | 0 => -1
  | k + 1 => if fo P o k = -1 then (if P k then nI (o + k) else -1) else fo P o k
theorem fo_yes {P : Nat → Bool} {o k : Nat} (h : fo P o k = -1) (hp : P k = true) : fo P o (k + 1) = nI (o + k) := by rw [fo, if_pos h, if_pos hp]
theorem fo_no {P : Nat → Bool} {o k : Nat} (h : fo P o k = -1) (hp : P k = false) : fo P o (k + 1) = -1 := by rw [fo, if_pos h, if_neg (by rw [hp]; exact Bool.noConfusion)]
theorem fo_stay {P : Nat → Bool} {o k : Nat} (h : ¬ fo P o k = -1) : ∀ m, fo P o (k + m) = fo P o k
  | 0 => rfl
  | m + 1 => by have e := fo_stay h m; rw [← Nat.add_assoc, fo, e, if_neg h]
theorem fo_stay' {P : Nat → Bool} {o k m : Nat} (h : ¬ fo P o k = -1) (hm : k ≤ m) : fo P o m = fo P o k := by
  obtain ⟨j, rfl⟩ := Nat.exists_eq_add_of_le hm
  exact fo_stay h j
def lcF (ao at1 an bn : Nat → Nat) (p x : Nat) : Int32 := fo (fun q => (htr ao at1 an bn x q).testBit p) (10 * x) 10
def nmF (bn : Nat → Nat) (n p : Nat) : Int32 := fi (fun m => (bn m).testBit p) n
def qC (ao at1 an bn : Nat → Nat) (p x : Nat) : Nat → Bool := fun r => decide (¬ lcF ao at1 an (cO ao at1 an bn r) p x = -1)
def tbW (ao at1 an bn : Nat → Nat) (p x n : Nat) : Int32 := if nmF bn n p = nI x then nI 0 else if lcF ao at1 an bn p x = -1 then (if fi (qC ao at1 an bn p x) (10 * n) = -1 then -1 else nI 2) else nI 1
def tbT (ao at1 an bn : Nat → Nat) (p x n : Nat) : Int32 := if nmF bn n p = nI x then -1 else if lcF ao at1 an bn p x = -1 then fi (qC ao at1 an bn p x) (10 * n) else lcF ao at1 an bn p x
def obh (had x t : Nat) : Nat := if t = 0 then had else andn had (t ||| 2 ^ x) ||| (t &&& 2 ^ x)
def owS (bn : Nat → Nat) : Nat := bs (fun p => (bn p).testBit p) 7
def oB (ao at1 an bn : Nat → Nat) (r : Nat) : Nat := ct (obh (owS bn) (r / 10) (htr ao at1 an bn (r / 10) (r % 10))).testBit 31
def tl1 (ao at1 an bn : Nat → Nat) (t : Int32 × Int32 × Int32) : Nat → Int32 × Int32 × Int32
  | 0 => t
  | k + 1 => jd (tl1 ao at1 an bn t k) (oB ao at1 an bn k) (nI 1) (nI k)
def tl2 (ao at1 an bn : Nat → Nat) (c : Nat) (t : Int32 × Int32 × Int32) : Nat → Int32 × Int32 × Int32
  | 0 => t
  | k + 1 => jd (tl2 ao at1 an bn c t k) (oB ao at1 an bn k) (nI 2) (nI c)
def tl3 (ao at1 an bn : Nat → Nat) (n : Nat) (t : Int32 × Int32 × Int32) : Nat → Int32 × Int32 × Int32
  | 0 => t
  | k + 1 => tl2 ao at1 an (cO ao at1 an bn k) k (tl3 ao at1 an bn n t k) (10 * n)
def oaF (ao at1 an bn : Nat → Nat) (n : Nat) : Int32 × Int32 × Int32 := tl3 ao at1 an bn n (tl1 ao at1 an bn (nI (ct (owS bn).testBit 31), nI 0, -1) (10 * n)) (10 * n)
def wB (ao at1 an bn : Nat → Nat) (n s : Nat) : Nat → Nat → Nat
  | 0 => bn
  | k + 1 => stl (wB ao at1 an bn n s k) (wX s (k + 1) / 65536 % n) (htr ao at1 an (wB ao at1 an bn n s k) (wX s (k + 1) / 65536 % n) (wX s (k + 1) / 1048576 % 10))
theorem owS_128 (bn : Nat → Nat) : owS bn < 128 := bs_lt _ 7
theorem obh_128 {had x t : Nat} (h : had < 128) (ht : t < 128) : obh had x t < 128 := by
  unfold obh; split
  · exact h
  · exact or_128 (andn_128 h) (and_128 ht)
theorem wB_128 {ao at1 an bn : Nat → Nat} {n s : Nat} (hh : ∀ p, p < 10 → ao p < 128 ∧ at1 p < 128 ∧ an p < 128) (hb : ∀ j, j < 7 → bn j < 128) : ∀ k, ∀ j, j < 7 → wB ao at1 an bn n s k j < 128
  | 0 => hb
  | k + 1 => stl_128 (wB_128 hh hb k) (htr_128 (hh _ (Nat.mod_lt _ (by decide))))

set_option maxHeartbeats 4000000 in
set_option maxRecDepth 100000 in
theorem f_X8_ownersBehind (l : Launch) (E : Ew) (x : Nat → Nat) (w : Nat) (y : Nat) (t : Nat) (hw : w < 128) (hy : y < 7) (ht : t < 128) : Fn l E 0 yX8_ownersBehind cX8_ownersBehind 5 (some .int) [.ref (x 12), .int (nI w), .int (nI y), .int (nI t)] [] (some (.int (nI (obh w y t)))) [] := by
  refine fn_I (by decide) (Nat.le_of_ble_eq_true rfl) rfl ?_
  intro K hC hR
  show G K E 5 [] [(0, .ref (x 12)), (1, .int (nI w)), (2, .int (nI y)), (3, .int (nI t))] 0 []
  refine g_iload_n hC dX8_ownersBehind_0 rfl 3 rfl ?_
  refine g_if_neN (tgt := 6) hC dX8_ownersBehind_1 (by decide) (by omega) (fun h_1 => ?_) (fun h_1 => ?_)
  · refine g_iconst (v := (nI 1)) hC dX8_ownersBehind_6 (by decide) ?_
    refine g_iload_n hC dX8_ownersBehind_7 rfl 2 rfl ?_
    refine g_ishl hC dX8_ownersBehind_8 ?_
    refine g_val (v' := .int (nI (2 ^ y))) (by rw [sh1 (by omega)]) ?_
    refine g_istore hC [(4, .int (nI (2 ^ y))), (0, .ref (x 12)), (1, .int (nI w)), (2, .int (nI y)), (3, .int (nI t))] dX8_ownersBehind_9 (by decide) rfl ?_
    refine g_iload_n hC dX8_ownersBehind_11 rfl 2 rfl ?_
    refine g_iload_n hC dX8_ownersBehind_12 rfl 4 rfl ?_
    refine g_iload hC dX8_ownersBehind_13 0 rfl ?_
    refine g_ior hC dX8_ownersBehind_15 ?_
    refine g_val (v' := .int (nI (t ||| 2 ^ y))) (by rw [fa_or]) ?_
    refine g_iconst (v := (-1)) hC dX8_ownersBehind_16 (by decide) ?_
    refine g_ixor hC dX8_ownersBehind_17 ?_
    refine g_iand hC dX8_ownersBehind_18 ?_
    refine g_val (v' := .int (nI (andn w (t ||| 2 ^ y)))) (by rw [andn_N (by omega)]) ?_
    refine g_iload_n hC dX8_ownersBehind_19 rfl 4 rfl ?_
    refine g_iload hC dX8_ownersBehind_20 0 rfl ?_
    refine g_iand hC dX8_ownersBehind_22 ?_
    refine g_val (v' := .int (nI (t &&& 2 ^ y))) (by rw [fa_and]) ?_
    refine g_ior hC dX8_ownersBehind_23 ?_
    refine g_val (v' := .int (nI (andn w (t ||| 2 ^ y) ||| (t &&& 2 ^ y)))) (by rw [fa_or]) ?_
    exact g_val (by unfold obh; rw [if_neg h_1]) (g_ws (rfl) (hR _ _ dX8_ownersBehind_24))
  · refine g_iload_n hC dX8_ownersBehind_4 rfl 1 rfl ?_
    exact g_val (by unfold obh; rw [if_pos h_1]) (g_ws (rfl) (hR _ _ dX8_ownersBehind_5))
set_option maxHeartbeats 4000000 in
set_option maxRecDepth 100000 in
theorem f_X8_callOnce (l : Launch) (E : Ew) (x : Nat → Nat) (fw : Int32) (ft : Int32) (mt : Int32) (bh : Nat → Nat) (h : Nat → Nat) (da : Int32) (de : Int32) (no : Int32) (pa : Int32) (n : Nat) (bn : Nat → Nat) (ao : Nat → Nat) (at1 : Nat → Nat) (an : Nat → Nat) (c : Nat) (hh : ∀ p, p < 10 → ao p < 128 ∧ at1 p < 128 ∧ an p < 128) (hb : ∀ j, j < 7 → bn j < 128) (hc : c < 70) : Fn l E 2 yX8_callOnce cX8_callOnce 5 none [.ref (x 12), .ref (h 0), .ref (x 7), .int (nI c)] [(x 12, .inr (8, oS x fw ft mt)), (x 13, .inl (E.2.1 0, 7, .inl (nf bh))), (x 7, .inr (6, oG x)), (x 9, .inl (E.2.1 0, 10, .inl (nf ao))), (x 10, .inl (E.2.1 0, 10, .inl (nf at1))), (x 11, .inl (E.2.1 0, 10, .inl (nf an))), (h 0, .inr (5, oH h da (nI n) de no pa)), (h 3, .inl (E.2.1 0, 7, .inl (nf bn)))] none [(x 12, .inr (8, oS x fw ft mt)), (x 13, .inl (E.2.1 0, 7, .inl (nf (cO ao at1 an bn c)))), (x 7, .inr (6, oG x)), (x 9, .inl (E.2.1 0, 10, .inl (nf ao))), (x 10, .inl (E.2.1 0, 10, .inl (nf at1))), (x 11, .inl (E.2.1 0, 10, .inl (nf an))), (h 0, .inr (5, oH h da (nI n) de no pa)), (h 3, .inl (E.2.1 0, 7, .inl (nf bn)))] := by
  refine fn_V (by decide) (Nat.le_of_ble_eq_true rfl) rfl ?_
  intro K hC hR
  show G K E 5 [(x 12, .inr (8, oS x fw ft mt)), (x 13, .inl (E.2.1 0, 7, .inl (nf bh))), (x 7, .inr (6, oG x)), (x 9, .inl (E.2.1 0, 10, .inl (nf ao))), (x 10, .inl (E.2.1 0, 10, .inl (nf at1))), (x 11, .inl (E.2.1 0, 10, .inl (nf an))), (h 0, .inr (5, oH h da (nI n) de no pa)), (h 3, .inl (E.2.1 0, 7, .inl (nf bn)))] [(0, .ref (x 12)), (1, .ref (h 0)), (2, .ref (x 7)), (3, .int (nI c))] 0 []
  refine g_aload_n hC dX8_callOnce_0 rfl 1 rfl ?_
  refine g_get hC 6 5 4 inX5 m1_51 dX8_callOnce_1 rfl rfl (by decide) rfl ?_
  refine g_iconst (v := (nI 0)) hC dX8_callOnce_4 (by decide) ?_
  refine g_aload_n hC dX8_callOnce_5 rfl 0 rfl ?_
  refine g_get hC 0 8 0 inX8 m1_205 dX8_callOnce_6 rfl rfl (by decide) rfl ?_
  refine g_iconst (v := (nI 0)) hC dX8_callOnce_9 (by decide) ?_
  refine g_bipush (v := (nI 7)) hC dX8_callOnce_10 (by decide) ?_
  refine g_copy (t0 := 0) hC 7 1 [(x 12, .inr (8, oS x fw ft mt)), (x 13, .inl (E.2.1 0, 7, .inl (va_cpy (nf bn) (nf bh) 0 0 7))), (x 7, .inr (6, oG x)), (x 9, .inl (E.2.1 0, 10, .inl (nf ao))), (x 10, .inl (E.2.1 0, 10, .inl (nf at1))), (x 11, .inl (E.2.1 0, 10, .inl (nf an))), (h 0, .inr (5, oH h da (nI n) de no pa)), (h 3, .inl (E.2.1 0, 7, .inl (nf bn)))] m3_41 m2_151 m2_150 m1_19 dX8_callOnce_12 rfl rfl (by decide) (by decide) (by omega) (by omega) (by decide) (Nat.le_of_ble_eq_true rfl) rfl ?_
  refine g_ws (ws' := [(x 12, .inr (8, oS x fw ft mt)), (x 13, .inl (E.2.1 0, 7, .inl (nf (cpN bn bh 0 0 7)))), (x 7, .inr (6, oG x)), (x 9, .inl (E.2.1 0, 10, .inl (nf ao))), (x 10, .inl (E.2.1 0, 10, .inl (nf at1))), (x 11, .inl (E.2.1 0, 10, .inl (nf an))), (h 0, .inr (5, oH h da (nI n) de no pa)), (h 3, .inl (E.2.1 0, 7, .inl (nf bn)))]) (by rw [nf_c bn bh 0 0 7]) ?_
  refine g_arr 1 [(x 12, .inr (8, oS x fw ft mt)), (x 13, .inl (E.2.1 0, 7, .inl (nf bn))), (x 7, .inr (6, oG x)), (x 9, .inl (E.2.1 0, 10, .inl (nf ao))), (x 10, .inl (E.2.1 0, 10, .inl (nf at1))), (x 11, .inl (E.2.1 0, 10, .inl (nf an))), (h 0, .inr (5, oH h da (nI n) de no pa)), (h 3, .inl (E.2.1 0, 7, .inl (nf bn)))] (nf bn) rfl (cpN_all) rfl ?_
  refine g_iload_n hC dX8_callOnce_15 rfl 3 rfl ?_
  refine g_bipush (v := (nI 10)) hC dX8_callOnce_16 (by decide) ?_
  refine g_idivN hC dX8_callOnce_18 (by omega) (by omega) (by omega) ?_
  refine g_istore hC [(4, .int (nI (c / 10))), (0, .ref (x 12)), (1, .ref (h 0)), (2, .ref (x 7)), (3, .int (nI c))] dX8_callOnce_19 (by decide) rfl ?_
  refine g_aload_n hC dX8_callOnce_21 rfl 1 rfl ?_
  refine g_get hC 0 8 0 inX8 m1_205 dX8_callOnce_22 rfl rfl (by decide) rfl ?_
  refine g_iload hC dX8_callOnce_25 0 rfl ?_
  refine g_aload_n hC dX8_callOnce_27 rfl 3 rfl ?_
  refine g_aload_n hC dX8_callOnce_28 rfl 1 rfl ?_
  refine g_get hC 0 8 0 inX8 m1_205 dX8_callOnce_29 rfl rfl (by decide) rfl ?_
  refine g_iload hC dX8_callOnce_32 0 rfl ?_
  refine g_iload_n hC dX8_callOnce_34 rfl 4 rfl ?_
  refine g_bipush (v := (nI 10)) hC dX8_callOnce_35 (by decide) ?_
  refine g_iremN hC dX8_callOnce_37 (by omega) (by omega) (by omega) ?_
  refine g_callV hC (f_X6_turners (kl K) E x ao at1 an (x 13) bn (c / 10) (c % 10) (by omega) (by omega) (Nat.lt_trans (hb _ (by omega)) (by decide)) (Nat.lt_trans (hh _ (by omega)).2.1 (by decide))) wX6_turners m3_35 dX8_callOnce_38 [2, 3, 4, 5, 1] [(x 12, .inr (8, oS x fw ft mt)), (x 13, .inl (E.2.1 0, 7, .inl (nf bn))), (x 7, .inr (6, oG x)), (x 9, .inl (E.2.1 0, 10, .inl (nf ao))), (x 10, .inl (E.2.1 0, 10, .inl (nf at1))), (x 11, .inl (E.2.1 0, 10, .inl (nf an))), (h 0, .inr (5, oH h da (nI n) de no pa)), (h 3, .inl (E.2.1 0, 7, .inl (nf bn)))] 2 6 rfl rfl (by decide) rfl (Nat.le_of_ble_eq_true rfl) rfl rfl rfl rfl rfl ?_
  refine g_callSN hC (f_X11_settle (kl K) E (x 13) bn (c / 10) (htr ao at1 an bn (c / 10) (c % 10)) (by omega) (Nat.lt_trans (htr_128 (hh _ (by omega))) (by decide)) (fun j hj => Nat.lt_trans (hb j hj) (by decide))) wX11_settle (List.mem_of_getElem? (i := 20) rfl) dX8_callOnce_41 [1] [(x 12, .inr (8, oS x fw ft mt)), (x 13, .inl (E.2.1 0, 7, .inl (nf (stl bn (c / 10) (htr ao at1 an bn (c / 10) (c % 10)))))), (x 7, .inr (6, oG x)), (x 9, .inl (E.2.1 0, 10, .inl (nf ao))), (x 10, .inl (E.2.1 0, 10, .inl (nf at1))), (x 11, .inl (E.2.1 0, 10, .inl (nf an))), (h 0, .inr (5, oH h da (nI n) de no pa)), (h 3, .inl (E.2.1 0, 7, .inl (nf bn)))] (by decide) rfl (Nat.le_of_ble_eq_true rfl) rfl rfl rfl rfl rfl ?_
  exact g_ws (rfl) (hR _ _ dX8_callOnce_44)
set_option maxHeartbeats 4000000 in
set_option maxRecDepth 100000 in
theorem f_X8_lastCall (l : Launch) (E : Ew) (x : Nat → Nat) (ao : Nat → Nat) (at1 : Nat → Nat) (an : Nat → Nat) (bq : Nat) (bn : Nat → Nat) (p : Nat) (y : Nat) (hh : ∀ p, p < 10 → ao p < 128 ∧ at1 p < 128 ∧ an p < 128) (hb : ∀ j, j < 7 → bn j < 128) (hp : p < 7) (hy : y < 7) : Fn l E 2 yX8_lastCall cX8_lastCall 6 (some .int) [.ref (x 12), .ref bq, .ref (x 7), .int (nI p), .int (nI y)] [(x 7, .inr (6, oG x)), (x 9, .inl (E.2.1 0, 10, .inl (nf ao))), (x 10, .inl (E.2.1 0, 10, .inl (nf at1))), (x 11, .inl (E.2.1 0, 10, .inl (nf an))), (bq, .inl (E.2.1 0, 7, .inl (nf bn)))] (some (.int (lcF ao at1 an bn p y))) [(x 7, .inr (6, oG x)), (x 9, .inl (E.2.1 0, 10, .inl (nf ao))), (x 10, .inl (E.2.1 0, 10, .inl (nf at1))), (x 11, .inl (E.2.1 0, 10, .inl (nf an))), (bq, .inl (E.2.1 0, 7, .inl (nf bn)))] := by
  refine fn_I (by decide) (Nat.le_of_ble_eq_true rfl) rfl ?_
  intro K hC hR
  show G K E 6 [(x 7, .inr (6, oG x)), (x 9, .inl (E.2.1 0, 10, .inl (nf ao))), (x 10, .inl (E.2.1 0, 10, .inl (nf at1))), (x 11, .inl (E.2.1 0, 10, .inl (nf an))), (bq, .inl (E.2.1 0, 7, .inl (nf bn)))] [(0, .ref (x 12)), (1, .ref bq), (2, .ref (x 7)), (3, .int (nI p)), (4, .int (nI y))] 0 []
  refine g_iconst (v := (nI 0)) hC dX8_lastCall_0 (by decide) ?_
  refine g_istore hC [(5, .int (nI 0)), (0, .ref (x 12)), (1, .ref bq), (2, .ref (x 7)), (3, .int (nI p)), (4, .int (nI y))] dX8_lastCall_1 (by decide) rfl ?_
  have L_3 : ∀ (fu : Nat) (k : Nat) (hk : k ≤ 10) (hf : fo (fun q => (htr ao at1 an bn y q).testBit p) (10 * y) k = -1), 10 - k < fu → G K E 6 [(x 7, .inr (6, oG x)), (x 9, .inl (E.2.1 0, 10, .inl (nf ao))), (x 10, .inl (E.2.1 0, 10, .inl (nf at1))), (x 11, .inl (E.2.1 0, 10, .inl (nf an))), (bq, .inl (E.2.1 0, 7, .inl (nf bn)))] [(5, .int (nI k)), (1, .ref bq), (2, .ref (x 7)), (3, .int (nI p)), (4, .int (nI y))] 3 [] := by
    intro fu
    induction fu with
    | zero => intro k hk hf hm_3; exact absurd hm_3 (Nat.not_lt_zero _)
    | succ fu ih_3 =>
      intro k hk hf hm_3
      refine g_iload hC dX8_lastCall_3 0 rfl ?_
      refine g_bipush (v := (nI 10)) hC dX8_lastCall_5 (by decide) ?_
      refine g_icmp_geN (tgt := 42) hC dX8_lastCall_7 (by decide) (by omega) (by omega) (fun h_7 => ?_) (fun h_7 => ?_)
      · refine g_iconst (v := (-1)) hC dX8_lastCall_42 (by decide) ?_
        exact g_val (by unfold lcF; rw [← hf, show k = 10 by omega]) (g_ws (rfl) (hR _ _ dX8_lastCall_43))
      · refine g_aload_n hC dX8_lastCall_10 rfl 2 rfl ?_
        refine g_aload_n hC dX8_lastCall_11 rfl 1 rfl ?_
        refine g_iload hC dX8_lastCall_12 4 rfl ?_
        refine g_iload hC dX8_lastCall_14 0 rfl ?_
        refine g_callV hC (f_X6_turners (kl K) E x ao at1 an bq bn y k (by omega) (by omega) (Nat.lt_trans (hb _ (by omega)) (by decide)) (Nat.lt_trans (hh _ (by omega)).2.1 (by decide))) wX6_turners m3_35 dX8_lastCall_16 [0, 1, 2, 3, 4] [(x 7, .inr (6, oG x)), (x 9, .inl (E.2.1 0, 10, .inl (nf ao))), (x 10, .inl (E.2.1 0, 10, .inl (nf at1))), (x 11, .inl (E.2.1 0, 10, .inl (nf an))), (bq, .inl (E.2.1 0, 7, .inl (nf bn)))] 0 6 rfl rfl (by decide) rfl (Nat.le_of_ble_eq_true rfl) rfl rfl rfl rfl rfl ?_
        refine g_iload_n hC dX8_lastCall_19 rfl 3 rfl ?_
        refine g_callSN hC (f_X11_bit (kl K) E (htr ao at1 an bn y k) p (Nat.lt_trans (htr_128 (hh _ (by omega))) (by decide)) (by omega)) wX11_bit (List.mem_of_getElem? (i := 19) rfl) dX8_lastCall_20 [] [(x 7, .inr (6, oG x)), (x 9, .inl (E.2.1 0, 10, .inl (nf ao))), (x 10, .inl (E.2.1 0, 10, .inl (nf at1))), (x 11, .inl (E.2.1 0, 10, .inl (nf an))), (bq, .inl (E.2.1 0, 7, .inl (nf bn)))] (by decide) rfl (Nat.le_of_ble_eq_true rfl) rfl rfl rfl rfl rfl ?_
        refine g_iconst (v := (nI 1)) hC dX8_lastCall_23 (by decide) ?_
        refine g_icmp_ne (tgt := 36) hC dX8_lastCall_24 (by decide) (fun h_24 => ?_) (fun h_24 => ?_)
        · refine g_iincN hC (q := 0) 1 [(5, .int (nI (k + 1))), (1, .ref bq), (2, .ref (x 7)), (3, .int (nI p)), (4, .int (nI y))] dX8_lastCall_36 rfl rfl (by decide) rfl ?_
          refine g_goto (tgt := 3) hC dX8_lastCall_39 (by decide) ?_
          refine g_lv (lv' := [(5, .int (nI (k + 1))), (1, .ref bq), (2, .ref (x 7)), (3, .int (nI p)), (4, .int (nI y))]) [0, 1, 2, 3, 4] rfl ?_
          exact ih_3 (k + 1) (by omega) (fo_no (P := (fun q => (htr ao at1 an bn y q).testBit p)) hf (by cases q : (htr ao at1 an bn y k).testBit p; rfl; rw [q] at h_24; exact absurd rfl h_24)) (by omega)
        · refine g_bipush (v := (nI 10)) hC dX8_lastCall_27 (by decide) ?_
          refine g_iload hC dX8_lastCall_29 4 rfl ?_
          refine g_imulN hC dX8_lastCall_31 ?_
          refine g_iload hC dX8_lastCall_32 0 rfl ?_
          refine g_iaddN hC dX8_lastCall_34 ?_
          exact g_val (by unfold lcF; rw [fo_stay' (k := k + 1) (by rw [fo_yes (P := (fun q => (htr ao at1 an bn y q).testBit p)) hf ((bI_N1 _).mp h_24)]; exact nI_m1 (by omega)) (by omega), fo_yes (P := (fun q => (htr ao at1 an bn y q).testBit p)) hf ((bI_N1 _).mp h_24)]) (g_ws (rfl) (hR _ _ dX8_lastCall_35))
  refine g_lv (lv' := [(5, .int (nI 0)), (1, .ref bq), (2, .ref (x 7)), (3, .int (nI p)), (4, .int (nI y))]) [0, 2, 3, 4, 5] rfl ?_
  exact L_3 ((10 - 0) + 1) 0 (by omega) (rfl) (Nat.lt_succ_self _)
set_option maxHeartbeats 4000000 in
set_option maxRecDepth 100000 in
theorem f_X8_toBear (l : Launch) (E : Ew) (x : Nat → Nat) (fw : Int32) (ft : Int32) (mt : Int32) (bh : Nat → Nat) (h : Nat → Nat) (da : Int32) (de : Int32) (no : Int32) (pa : Int32) (n : Nat) (bn : Nat → Nat) (ao : Nat → Nat) (at1 : Nat → Nat) (an : Nat → Nat) (p : Nat) (y : Nat) (hn7 : n ≤ 7) (hh : ∀ p, p < 10 → ao p < 128 ∧ at1 p < 128 ∧ an p < 128) (hb : ∀ j, j < 7 → bn j < 128) (hp : p < n) (hy : y < n) : Fe l E 3 yX8_toBear cX8_toBear 6 none [.ref (x 12), .ref (h 0), .ref (x 7), .int (nI p), .int (nI y)] [(x 12, .inr (8, oS x fw ft mt)), (x 13, .inl (E.2.1 0, 7, .inl (nf bh))), (x 7, .inr (6, oG x)), (x 9, .inl (E.2.1 0, 10, .inl (nf ao))), (x 10, .inl (E.2.1 0, 10, .inl (nf at1))), (x 11, .inl (E.2.1 0, 10, .inl (nf an))), (h 0, .inr (5, oH h da (nI n) de no pa)), (h 3, .inl (E.2.1 0, 7, .inl (nf bn)))] none (fun jj => [(x 12, .inr (8, oS x (tbW ao at1 an bn p y n) (tbT ao at1 an bn p y n) mt)), (x 13, .inl (E.2.1 0, 7, .inl (jj 0))), (x 7, .inr (6, oG x)), (x 9, .inl (E.2.1 0, 10, .inl (nf ao))), (x 10, .inl (E.2.1 0, 10, .inl (nf at1))), (x 11, .inl (E.2.1 0, 10, .inl (nf an))), (h 0, .inr (5, oH h da (nI n) de no pa)), (h 3, .inl (E.2.1 0, 7, .inl (nf bn)))]) := by
  refine fe_V (by decide) (Nat.le_of_ble_eq_true rfl) (fun _ => rfl) ?_
  intro K hC hR
  show G K E 6 [(x 12, .inr (8, oS x fw ft mt)), (x 13, .inl (E.2.1 0, 7, .inl (nf bh))), (x 7, .inr (6, oG x)), (x 9, .inl (E.2.1 0, 10, .inl (nf ao))), (x 10, .inl (E.2.1 0, 10, .inl (nf at1))), (x 11, .inl (E.2.1 0, 10, .inl (nf an))), (h 0, .inr (5, oH h da (nI n) de no pa)), (h 3, .inl (E.2.1 0, 7, .inl (nf bn)))] [(0, .ref (x 12)), (1, .ref (h 0)), (2, .ref (x 7)), (3, .int (nI p)), (4, .int (nI y))] 0 []
  have hb2 : ∀ j, j < 7 → bn j < 2147483648 := fun j hj => Nat.lt_trans (hb j hj) (by decide)
  refine g_aload_n hC dX8_toBear_0 rfl 0 rfl ?_
  refine g_iconst (v := (nI 0)) hC dX8_toBear_1 (by decide) ?_
  refine g_put hC 0 8 1 [(x 12, .inr (8, oS x (nI 0) ft mt)), (x 13, .inl (E.2.1 0, 7, .inl (nf bh))), (x 7, .inr (6, oG x)), (x 9, .inl (E.2.1 0, 10, .inl (nf ao))), (x 10, .inl (E.2.1 0, 10, .inl (nf at1))), (x 11, .inl (E.2.1 0, 10, .inl (nf an))), (h 0, .inr (5, oH h da (nI n) de no pa)), (h 3, .inl (E.2.1 0, 7, .inl (nf bn)))] .int inX8 tyX8_ok nmX8 m1_206 dX8_toBear_2 rfl rfl (by decide) rfl (by decide +kernel) rfl rfl (Nat.le_of_ble_eq_true rfl) rfl ?_
  refine g_aload_n hC dX8_toBear_5 rfl 0 rfl ?_
  refine g_iconst (v := (-1)) hC dX8_toBear_6 (by decide) ?_
  refine g_put hC 0 8 2 [(x 12, .inr (8, oS x (nI 0) (-1) mt)), (x 13, .inl (E.2.1 0, 7, .inl (nf bh))), (x 7, .inr (6, oG x)), (x 9, .inl (E.2.1 0, 10, .inl (nf ao))), (x 10, .inl (E.2.1 0, 10, .inl (nf at1))), (x 11, .inl (E.2.1 0, 10, .inl (nf an))), (h 0, .inr (5, oH h da (nI n) de no pa)), (h 3, .inl (E.2.1 0, 7, .inl (nf bn)))] .int inX8 tyX8_ok nmX8 m1_208 dX8_toBear_7 rfl rfl (by decide) rfl (by decide +kernel) rfl rfl (Nat.le_of_ble_eq_true rfl) rfl ?_
  refine g_aload_n hC dX8_toBear_10 rfl 1 rfl ?_
  refine g_iload_n hC dX8_toBear_11 rfl 3 rfl ?_
  refine g_callV hC (f_X5_nameOf (kl K) E h da de no pa bn n p (by omega) (hb2) (by omega)) wX5_nameOf m3_30 dX8_toBear_12 [6, 7] [(x 12, .inr (8, oS x (nI 0) (-1) mt)), (x 13, .inl (E.2.1 0, 7, .inl (nf bh))), (x 7, .inr (6, oG x)), (x 9, .inl (E.2.1 0, 10, .inl (nf ao))), (x 10, .inl (E.2.1 0, 10, .inl (nf at1))), (x 11, .inl (E.2.1 0, 10, .inl (nf an))), (h 0, .inr (5, oH h da (nI n) de no pa)), (h 3, .inl (E.2.1 0, 7, .inl (nf bn)))] 6 5 rfl rfl (by decide) rfl (Nat.le_of_ble_eq_true rfl) rfl rfl rfl rfl rfl ?_
  refine g_val (v' := .int (nmF bn n p)) (rfl) ?_
  refine g_iload hC dX8_toBear_15 4 rfl ?_
  refine g_icmp_ne (tgt := 21) hC dX8_toBear_17 (by decide) (fun h_17 => ?_) (fun h_17 => ?_)
  · refine g_aload_n hC dX8_toBear_21 rfl 0 rfl ?_
    refine g_iconst (v := (nI 1)) hC dX8_toBear_22 (by decide) ?_
    refine g_put hC 0 8 1 [(x 12, .inr (8, oS x (nI 1) (-1) mt)), (x 13, .inl (E.2.1 0, 7, .inl (nf bh))), (x 7, .inr (6, oG x)), (x 9, .inl (E.2.1 0, 10, .inl (nf ao))), (x 10, .inl (E.2.1 0, 10, .inl (nf at1))), (x 11, .inl (E.2.1 0, 10, .inl (nf an))), (h 0, .inr (5, oH h da (nI n) de no pa)), (h 3, .inl (E.2.1 0, 7, .inl (nf bn)))] .int inX8 tyX8_ok nmX8 m1_206 dX8_toBear_23 rfl rfl (by decide) rfl (by decide +kernel) rfl rfl (Nat.le_of_ble_eq_true rfl) rfl ?_
    refine g_aload_n hC dX8_toBear_26 rfl 0 rfl ?_
    refine g_aload_n hC dX8_toBear_27 rfl 0 rfl ?_
    refine g_aload_n hC dX8_toBear_28 rfl 1 rfl ?_
    refine g_get hC 6 5 4 inX5 m1_51 dX8_toBear_29 rfl rfl (by decide) rfl ?_
    refine g_aload_n hC dX8_toBear_32 rfl 2 rfl ?_
    refine g_iload_n hC dX8_toBear_33 rfl 3 rfl ?_
    refine g_iload hC dX8_toBear_34 4 rfl ?_
    refine g_callV hC (f_X8_lastCall (kl K) E x ao at1 an (h 3) bn p y (hh) (hb) (by omega) (by omega)) wX8_lastCall m3_31 dX8_toBear_36 [2, 3, 4, 5, 7] [(x 12, .inr (8, oS x (nI 1) (-1) mt)), (x 13, .inl (E.2.1 0, 7, .inl (nf bh))), (x 7, .inr (6, oG x)), (x 9, .inl (E.2.1 0, 10, .inl (nf ao))), (x 10, .inl (E.2.1 0, 10, .inl (nf at1))), (x 11, .inl (E.2.1 0, 10, .inl (nf an))), (h 0, .inr (5, oH h da (nI n) de no pa)), (h 3, .inl (E.2.1 0, 7, .inl (nf bn)))] 0 8 rfl rfl (by decide) rfl (Nat.le_of_ble_eq_true rfl) rfl rfl rfl rfl rfl ?_
    refine g_put hC 0 8 2 [(x 12, .inr (8, oS x (nI 1) (lcF ao at1 an bn p y) mt)), (x 13, .inl (E.2.1 0, 7, .inl (nf bh))), (x 7, .inr (6, oG x)), (x 9, .inl (E.2.1 0, 10, .inl (nf ao))), (x 10, .inl (E.2.1 0, 10, .inl (nf at1))), (x 11, .inl (E.2.1 0, 10, .inl (nf an))), (h 0, .inr (5, oH h da (nI n) de no pa)), (h 3, .inl (E.2.1 0, 7, .inl (nf bn)))] .int inX8 tyX8_ok nmX8 m1_208 dX8_toBear_39 rfl rfl (by decide) rfl (by decide +kernel) rfl rfl (Nat.le_of_ble_eq_true rfl) rfl ?_
    refine g_aload_n hC dX8_toBear_42 rfl 0 rfl ?_
    refine g_get hC 0 8 2 inX8 m1_208 dX8_toBear_43 rfl rfl (by decide) rfl ?_
    refine g_iconst (v := (-1)) hC dX8_toBear_46 (by decide) ?_
    refine g_icmp_eq (tgt := 51) hC dX8_toBear_47 (by decide) (fun h_47 => ?_) (fun h_47 => ?_)
    · refine g_aload_n hC dX8_toBear_51 rfl 0 rfl ?_
      refine g_iconst (v := (nI 2)) hC dX8_toBear_52 (by decide) ?_
      refine g_put hC 0 8 1 [(x 12, .inr (8, oS x (nI 2) (lcF ao at1 an bn p y) mt)), (x 13, .inl (E.2.1 0, 7, .inl (nf bh))), (x 7, .inr (6, oG x)), (x 9, .inl (E.2.1 0, 10, .inl (nf ao))), (x 10, .inl (E.2.1 0, 10, .inl (nf at1))), (x 11, .inl (E.2.1 0, 10, .inl (nf an))), (h 0, .inr (5, oH h da (nI n) de no pa)), (h 3, .inl (E.2.1 0, 7, .inl (nf bn)))] .int inX8 tyX8_ok nmX8 m1_206 dX8_toBear_53 rfl rfl (by decide) rfl (by decide +kernel) rfl rfl (Nat.le_of_ble_eq_true rfl) rfl ?_
      refine g_iconst (v := (nI 0)) hC dX8_toBear_56 (by decide) ?_
      refine g_istore hC [(5, .int (nI 0)), (0, .ref (x 12)), (1, .ref (h 0)), (2, .ref (x 7)), (3, .int (nI p)), (4, .int (nI y))] dX8_toBear_57 (by decide) rfl ?_
      have L_59 : ∀ (fu : Nat) (k : Nat) (bg : Nat → Nat) (hk : k ≤ 10 * n) (hf : fi (qC ao at1 an bn p y) k = -1), 10 * n - k < fu → G K E 6 [(x 12, .inr (8, oS x (nI 2) (lcF ao at1 an bn p y) mt)), (x 13, .inl (E.2.1 0, 7, .inl (nf bg))), (x 7, .inr (6, oG x)), (x 9, .inl (E.2.1 0, 10, .inl (nf ao))), (x 10, .inl (E.2.1 0, 10, .inl (nf at1))), (x 11, .inl (E.2.1 0, 10, .inl (nf an))), (h 0, .inr (5, oH h da (nI n) de no pa)), (h 3, .inl (E.2.1 0, 7, .inl (nf bn)))] [(5, .int (nI k)), (0, .ref (x 12)), (1, .ref (h 0)), (2, .ref (x 7)), (3, .int (nI p)), (4, .int (nI y))] 59 [] := by
        intro fu
        induction fu with
        | zero => intro k bg hk hf hm_59; exact absurd hm_59 (Nat.not_lt_zero _)
        | succ fu ih_59 =>
          intro k bg hk hf hm_59
          refine g_iload hC dX8_toBear_59 0 rfl ?_
          refine g_bipush (v := (nI 10)) hC dX8_toBear_61 (by decide) ?_
          refine g_aload_n hC dX8_toBear_63 rfl 2 rfl ?_
          refine g_get hC 6 5 1 inX5 m1_41 dX8_toBear_64 rfl rfl (by decide) rfl ?_
          refine g_imulN hC dX8_toBear_67 ?_
          refine g_icmp_geN (tgt := 108) hC dX8_toBear_68 (by decide) (by omega) (by omega) (fun h_68 => ?_) (fun h_68 => ?_)
          · refine g_aload_n hC dX8_toBear_108 rfl 1 rfl ?_
            refine g_iconst (v := (-1)) hC dX8_toBear_109 (by decide) ?_
            refine g_put hC 0 8 1 [(x 12, .inr (8, oS x (-1) (lcF ao at1 an bn p y) mt)), (x 13, .inl (E.2.1 0, 7, .inl (nf bg))), (x 7, .inr (6, oG x)), (x 9, .inl (E.2.1 0, 10, .inl (nf ao))), (x 10, .inl (E.2.1 0, 10, .inl (nf at1))), (x 11, .inl (E.2.1 0, 10, .inl (nf an))), (h 0, .inr (5, oH h da (nI n) de no pa)), (h 3, .inl (E.2.1 0, 7, .inl (nf bn)))] .int inX8 tyX8_ok nmX8 m1_206 dX8_toBear_110 rfl rfl (by decide) rfl (by decide +kernel) rfl rfl (Nat.le_of_ble_eq_true rfl) rfl ?_
            exact g_ws (by unfold tbW tbT; rw [if_neg h_17, if_neg h_17, if_pos h_47, if_pos h_47, show 10 * n = k by omega, hf, if_pos rfl, h_47] <;> rfl) (hR (fun jx => (nf bg)) _ _ dX8_toBear_113)
          · refine g_aload_n hC dX8_toBear_71 rfl 1 rfl ?_
            refine g_aload_n hC dX8_toBear_72 rfl 2 rfl ?_
            refine g_aload_n hC dX8_toBear_73 rfl 3 rfl ?_
            refine g_iload hC dX8_toBear_74 0 rfl ?_
            refine g_callV hC (f_X8_callOnce (kl K) E x (nI 2) (lcF ao at1 an bn p y) mt bg h da de no pa n bn ao at1 an k (hh) (hb) (by omega)) wX8_callOnce m3_37 dX8_toBear_76 [0, 1, 2, 3, 4, 5, 6, 7] [(x 12, .inr (8, oS x (nI 2) (lcF ao at1 an bn p y) mt)), (x 13, .inl (E.2.1 0, 7, .inl (nf (cO ao at1 an bn k)))), (x 7, .inr (6, oG x)), (x 9, .inl (E.2.1 0, 10, .inl (nf ao))), (x 10, .inl (E.2.1 0, 10, .inl (nf at1))), (x 11, .inl (E.2.1 0, 10, .inl (nf an))), (h 0, .inr (5, oH h da (nI n) de no pa)), (h 3, .inl (E.2.1 0, 7, .inl (nf bn)))] 0 8 rfl rfl (by decide) rfl (Nat.le_of_ble_eq_true rfl) rfl rfl rfl rfl rfl ?_
            refine g_aload_n hC dX8_toBear_79 rfl 1 rfl ?_
            refine g_aload_n hC dX8_toBear_80 rfl 1 rfl ?_
            refine g_get hC 0 8 0 inX8 m1_205 dX8_toBear_81 rfl rfl (by decide) rfl ?_
            refine g_aload_n hC dX8_toBear_84 rfl 3 rfl ?_
            refine g_iload_n hC dX8_toBear_85 rfl 4 rfl ?_
            refine g_iload hC dX8_toBear_86 5 rfl ?_
            refine g_callV hC (f_X8_lastCall (kl K) E x ao at1 an (x 13) (cO ao at1 an bn k) p y (hh) (stl_128 hb (htr_128 (hh _ (by omega)))) (by omega) (by omega)) wX8_lastCall m3_31 dX8_toBear_88 [2, 3, 4, 5, 1] [(x 12, .inr (8, oS x (nI 2) (lcF ao at1 an bn p y) mt)), (x 13, .inl (E.2.1 0, 7, .inl (nf (cO ao at1 an bn k)))), (x 7, .inr (6, oG x)), (x 9, .inl (E.2.1 0, 10, .inl (nf ao))), (x 10, .inl (E.2.1 0, 10, .inl (nf at1))), (x 11, .inl (E.2.1 0, 10, .inl (nf an))), (h 0, .inr (5, oH h da (nI n) de no pa)), (h 3, .inl (E.2.1 0, 7, .inl (nf bn)))] 0 8 rfl rfl (by decide) rfl (Nat.le_of_ble_eq_true rfl) rfl rfl rfl rfl rfl ?_
            refine g_iconst (v := (-1)) hC dX8_toBear_91 (by decide) ?_
            refine g_icmp_eq (tgt := 102) hC dX8_toBear_92 (by decide) (fun h_92 => ?_) (fun h_92 => ?_)
            · refine g_iincN hC (q := 0) 1 [(5, .int (nI (k + 1))), (0, .ref (x 12)), (1, .ref (h 0)), (2, .ref (x 7)), (3, .int (nI p)), (4, .int (nI y))] dX8_toBear_102 rfl rfl (by decide) rfl ?_
              refine g_goto (tgt := 59) hC dX8_toBear_105 (by decide) ?_
              refine g_lv (lv' := [(5, .int (nI (k + 1))), (0, .ref (x 12)), (1, .ref (h 0)), (2, .ref (x 7)), (3, .int (nI p)), (4, .int (nI y))]) [0, 1, 2, 3, 4, 5] rfl ?_
              exact ih_59 (k + 1) (cO ao at1 an bn k) (by omega) (fi_no (P := (qC ao at1 an bn p y)) hf (by simp [qC, h_92])) (by omega)
            · refine g_aload_n hC dX8_toBear_95 rfl 1 rfl ?_
              refine g_iload hC dX8_toBear_96 0 rfl ?_
              refine g_put hC 0 8 2 [(x 12, .inr (8, oS x (nI 2) (nI k) mt)), (x 13, .inl (E.2.1 0, 7, .inl (nf (cO ao at1 an bn k)))), (x 7, .inr (6, oG x)), (x 9, .inl (E.2.1 0, 10, .inl (nf ao))), (x 10, .inl (E.2.1 0, 10, .inl (nf at1))), (x 11, .inl (E.2.1 0, 10, .inl (nf an))), (h 0, .inr (5, oH h da (nI n) de no pa)), (h 3, .inl (E.2.1 0, 7, .inl (nf bn)))] .int inX8 tyX8_ok nmX8 m1_208 dX8_toBear_98 rfl rfl (by decide) rfl (by decide +kernel) rfl rfl (Nat.le_of_ble_eq_true rfl) rfl ?_
              exact g_ws (by unfold tbW tbT; rw [if_neg h_17, if_neg h_17, if_pos h_47, if_pos h_47, fi_stay' (k := k + 1) (P := (qC ao at1 an bn p y)) (by rw [fi_yes (P := (qC ao at1 an bn p y)) hf (by simp [qC, h_92])]; exact nI_m1 (by omega)) (by omega), fi_yes (P := (qC ao at1 an bn p y)) hf (by simp [qC, h_92]), if_neg (nI_m1 (by omega))] <;> rfl) (hR (fun jx => (nf (cO ao at1 an bn k))) _ _ dX8_toBear_101)
      refine g_lv (lv' := [(5, .int (nI 0)), (0, .ref (x 12)), (1, .ref (h 0)), (2, .ref (x 7)), (3, .int (nI p)), (4, .int (nI y))]) [0, 1, 2, 3, 4, 5] rfl ?_
      exact L_59 ((10 * n - 0) + 1) 0 bh (by omega) (rfl) (Nat.lt_succ_self _)
    · exact g_ws (by unfold tbW tbT; rw [if_neg h_17, if_neg h_17, if_neg h_47, if_neg h_47] <;> rfl) (hR (fun jx => (nf bh)) _ _ dX8_toBear_50)
  · exact g_ws (by unfold tbW tbT; rw [if_pos h_17, if_pos h_17] <;> rfl) (hR (fun jx => (nf bh)) _ _ dX8_toBear_20)
set_option maxHeartbeats 4000000 in
set_option maxRecDepth 100000 in
theorem f_X8_tryLastCalls1 (l : Launch) (E : Ew) (x : Nat → Nat) (fw : Int32) (ft : Int32) (mt : Int32) (ao : Nat → Nat) (at1 : Nat → Nat) (an : Nat → Nat) (bq : Nat) (bn : Nat → Nat) (m : Nat) (hh : ∀ p, p < 10 → ao p < 128 ∧ at1 p < 128 ∧ an p < 128) (hb : ∀ j, j < 7 → bn j < 128) (hm : m ≤ 70) : Fn l E 2 yX8_tryLastCalls cX8_tryLastCalls 10 none [.ref (x 12), .ref bq, .ref (x 7), .int (nI m), .int (-1)] [(x 12, .inr (8, oS x fw ft mt)), (x 7, .inr (6, oG x)), (x 9, .inl (E.2.1 0, 10, .inl (nf ao))), (x 10, .inl (E.2.1 0, 10, .inl (nf at1))), (x 11, .inl (E.2.1 0, 10, .inl (nf an))), (bq, .inl (E.2.1 0, 7, .inl (nf bn)))] none [(x 12, .inr (8, oS x ((tl1 ao at1 an bn (mt, fw, ft) m).2.1) ((tl1 ao at1 an bn (mt, fw, ft) m).2.2) ((tl1 ao at1 an bn (mt, fw, ft) m).1))), (x 7, .inr (6, oG x)), (x 9, .inl (E.2.1 0, 10, .inl (nf ao))), (x 10, .inl (E.2.1 0, 10, .inl (nf at1))), (x 11, .inl (E.2.1 0, 10, .inl (nf an))), (bq, .inl (E.2.1 0, 7, .inl (nf bn)))] := by
  refine fn_V (by decide) (Nat.le_of_ble_eq_true rfl) rfl ?_
  intro K hC hR
  show G K E 10 [(x 12, .inr (8, oS x fw ft mt)), (x 7, .inr (6, oG x)), (x 9, .inl (E.2.1 0, 10, .inl (nf ao))), (x 10, .inl (E.2.1 0, 10, .inl (nf at1))), (x 11, .inl (E.2.1 0, 10, .inl (nf an))), (bq, .inl (E.2.1 0, 7, .inl (nf bn)))] [(0, .ref (x 12)), (1, .ref bq), (2, .ref (x 7)), (3, .int (nI m)), (4, .int (-1))] 0 []
  refine g_aload_n hC dX8_tryLastCalls_0 rfl 1 rfl ?_
  refine g_callSN hC (f_X11_owners (kl K) E bq bn) wX11_owners (List.mem_of_getElem? (i := 21) rfl) dX8_tryLastCalls_1 [5] [(x 12, .inr (8, oS x fw ft mt)), (x 7, .inr (6, oG x)), (x 9, .inl (E.2.1 0, 10, .inl (nf ao))), (x 10, .inl (E.2.1 0, 10, .inl (nf at1))), (x 11, .inl (E.2.1 0, 10, .inl (nf an))), (bq, .inl (E.2.1 0, 7, .inl (nf bn)))] (by decide) rfl (Nat.le_of_ble_eq_true rfl) rfl rfl rfl rfl rfl ?_
  refine g_val (v' := .int (nI (owS bn))) (rfl) ?_
  refine g_istore hC [(5, .int (nI (owS bn))), (0, .ref (x 12)), (1, .ref bq), (2, .ref (x 7)), (3, .int (nI m)), (4, .int (-1))] dX8_tryLastCalls_4 (by decide) rfl ?_
  refine g_iconst (v := (nI 0)) hC dX8_tryLastCalls_6 (by decide) ?_
  refine g_istore hC [(6, .int (nI 0)), (5, .int (nI (owS bn))), (0, .ref (x 12)), (1, .ref bq), (2, .ref (x 7)), (3, .int (nI m)), (4, .int (-1))] dX8_tryLastCalls_7 (by decide) rfl ?_
  have L_9 : ∀ (fu : Nat) (k : Nat) (hk : k ≤ m), m - k < fu → G K E 10 [(x 12, .inr (8, oS x ((tl1 ao at1 an bn (mt, fw, ft) k).2.1) ((tl1 ao at1 an bn (mt, fw, ft) k).2.2) ((tl1 ao at1 an bn (mt, fw, ft) k).1))), (x 7, .inr (6, oG x)), (x 9, .inl (E.2.1 0, 10, .inl (nf ao))), (x 10, .inl (E.2.1 0, 10, .inl (nf at1))), (x 11, .inl (E.2.1 0, 10, .inl (nf an))), (bq, .inl (E.2.1 0, 7, .inl (nf bn)))] [(6, .int (nI k)), (5, .int (nI (owS bn))), (0, .ref (x 12)), (1, .ref bq), (2, .ref (x 7)), (3, .int (nI m)), (4, .int (-1))] 9 [] := by
    intro fu
    induction fu with
    | zero => intro k hk hm_9; exact absurd hm_9 (Nat.not_lt_zero _)
    | succ fu ih_9 =>
      intro k hk hm_9
      refine g_iload hC dX8_tryLastCalls_9 0 rfl ?_
      refine g_iload_n hC dX8_tryLastCalls_11 rfl 5 rfl ?_
      refine g_icmp_geN (tgt := 104) hC dX8_tryLastCalls_12 (by decide) (by omega) (by omega) (fun h_12 => ?_) (fun h_12 => ?_)
      · exact g_ws (by rw [show k = m by omega]) (hR _ _ dX8_tryLastCalls_104)
      · refine g_iload hC dX8_tryLastCalls_15 0 rfl ?_
        refine g_bipush (v := (nI 10)) hC dX8_tryLastCalls_17 (by decide) ?_
        refine g_idivN hC dX8_tryLastCalls_19 (by omega) (by omega) (by omega) ?_
        refine g_istore hC [(7, .int (nI (k / 10))), (6, .int (nI k)), (5, .int (nI (owS bn))), (0, .ref (x 12)), (1, .ref bq), (2, .ref (x 7)), (3, .int (nI m)), (4, .int (-1))] dX8_tryLastCalls_20 (by decide) rfl ?_
        refine g_aload_n hC dX8_tryLastCalls_22 rfl 5 rfl ?_
        refine g_aload_n hC dX8_tryLastCalls_23 rfl 4 rfl ?_
        refine g_iload hC dX8_tryLastCalls_24 0 rfl ?_
        refine g_iload hC dX8_tryLastCalls_26 1 rfl ?_
        refine g_bipush (v := (nI 10)) hC dX8_tryLastCalls_28 (by decide) ?_
        refine g_iremN hC dX8_tryLastCalls_30 (by omega) (by omega) (by omega) ?_
        refine g_callV hC (f_X6_turners (kl K) E x ao at1 an bq bn (k / 10) (k % 10) (by omega) (by omega) (Nat.lt_trans (hb _ (by omega)) (by decide)) (Nat.lt_trans (hh _ (by omega)).2.1 (by decide))) wX6_turners m3_35 dX8_tryLastCalls_31 [1, 2, 3, 4, 5] [(x 12, .inr (8, oS x ((tl1 ao at1 an bn (mt, fw, ft) k).2.1) ((tl1 ao at1 an bn (mt, fw, ft) k).2.2) ((tl1 ao at1 an bn (mt, fw, ft) k).1))), (x 7, .inr (6, oG x)), (x 9, .inl (E.2.1 0, 10, .inl (nf ao))), (x 10, .inl (E.2.1 0, 10, .inl (nf at1))), (x 11, .inl (E.2.1 0, 10, .inl (nf an))), (bq, .inl (E.2.1 0, 7, .inl (nf bn)))] 1 6 rfl rfl (by decide) rfl (Nat.le_of_ble_eq_true rfl) rfl rfl rfl rfl rfl ?_
        refine g_istore hC [(8, .int (nI (htr ao at1 an bn (k / 10) (k % 10)))), (7, .int (nI (k / 10))), (6, .int (nI k)), (5, .int (nI (owS bn))), (0, .ref (x 12)), (1, .ref bq), (2, .ref (x 7)), (3, .int (nI m)), (4, .int (-1))] dX8_tryLastCalls_34 (by decide) rfl ?_
        refine g_aload_n hC dX8_tryLastCalls_36 rfl 4 rfl ?_
        refine g_iload hC dX8_tryLastCalls_37 3 rfl ?_
        refine g_iload hC dX8_tryLastCalls_39 1 rfl ?_
        refine g_iload hC dX8_tryLastCalls_41 0 rfl ?_
        refine g_callV hC (f_X8_ownersBehind (kl K) E x (owS bn) (k / 10) (htr ao at1 an bn (k / 10) (k % 10)) (owS_128 bn) (by omega) (htr_128 (hh _ (by omega)))) wX8_ownersBehind m3_59 dX8_tryLastCalls_43 [] [(x 12, .inr (8, oS x ((tl1 ao at1 an bn (mt, fw, ft) k).2.1) ((tl1 ao at1 an bn (mt, fw, ft) k).2.2) ((tl1 ao at1 an bn (mt, fw, ft) k).1))), (x 7, .inr (6, oG x)), (x 9, .inl (E.2.1 0, 10, .inl (nf ao))), (x 10, .inl (E.2.1 0, 10, .inl (nf at1))), (x 11, .inl (E.2.1 0, 10, .inl (nf an))), (bq, .inl (E.2.1 0, 7, .inl (nf bn)))] 0 8 rfl rfl (by decide) rfl (Nat.le_of_ble_eq_true rfl) rfl rfl rfl rfl rfl ?_
        refine g_callS hC (f_J6_bitCount_0f7a4 (kl K) E (obh (owS bn) (k / 10) (htr ao at1 an bn (k / 10) (k % 10))) (Nat.lt_trans (obh_128 (owS_128 bn) (htr_128 (hh _ (by omega)))) (by decide))) wJ6_bitCount_0f7a4 m3_54 dX8_tryLastCalls_46 [] [(x 12, .inr (8, oS x ((tl1 ao at1 an bn (mt, fw, ft) k).2.1) ((tl1 ao at1 an bn (mt, fw, ft) k).2.2) ((tl1 ao at1 an bn (mt, fw, ft) k).1))), (x 7, .inr (6, oG x)), (x 9, .inl (E.2.1 0, 10, .inl (nf ao))), (x 10, .inl (E.2.1 0, 10, .inl (nf at1))), (x 11, .inl (E.2.1 0, 10, .inl (nf an))), (bq, .inl (E.2.1 0, 7, .inl (nf bn)))] (by decide) rfl (Nat.le_of_ble_eq_true rfl) rfl rfl rfl rfl rfl ?_
        refine g_val (v' := .int (nI (oB ao at1 an bn k))) (rfl) ?_
        refine g_istore hC [(9, .int (nI (oB ao at1 an bn k))), (8, .int (nI (htr ao at1 an bn (k / 10) (k % 10)))), (7, .int (nI (k / 10))), (6, .int (nI k)), (5, .int (nI (owS bn))), (0, .ref (x 12)), (1, .ref bq), (2, .ref (x 7)), (3, .int (nI m)), (4, .int (-1))] dX8_tryLastCalls_49 (by decide) rfl ?_
        refine g_iload hC dX8_tryLastCalls_51 0 rfl ?_
        refine g_aload_n hC dX8_tryLastCalls_53 rfl 5 rfl ?_
        refine g_get hC 0 8 3 inX8 m1_210 dX8_tryLastCalls_54 rfl rfl (by decide) rfl ?_
        refine g_icmp_le (tgt := 98) hC dX8_tryLastCalls_57 (by decide) (fun h_57 => ?_) (fun h_57 => ?_)
        · refine g_iincN hC (q := 3) 1 [(6, .int (nI (k + 1))), (9, .int (nI (oB ao at1 an bn k))), (8, .int (nI (htr ao at1 an bn (k / 10) (k % 10)))), (7, .int (nI (k / 10))), (5, .int (nI (owS bn))), (0, .ref (x 12)), (1, .ref bq), (2, .ref (x 7)), (3, .int (nI m)), (4, .int (-1))] dX8_tryLastCalls_98 rfl rfl (by decide) rfl ?_
          refine g_goto (tgt := 9) hC dX8_tryLastCalls_101 (by decide) ?_
          refine g_lv (lv' := [(6, .int (nI (k + 1))), (5, .int (nI (owS bn))), (0, .ref (x 12)), (1, .ref bq), (2, .ref (x 7)), (3, .int (nI m)), (4, .int (-1))]) [0, 4, 5, 6, 7, 8, 9] rfl ?_
          refine g_ws (ws' := [(x 12, .inr (8, oS x ((tl1 ao at1 an bn (mt, fw, ft) (k + 1)).2.1) ((tl1 ao at1 an bn (mt, fw, ft) (k + 1)).2.2) ((tl1 ao at1 an bn (mt, fw, ft) (k + 1)).1))), (x 7, .inr (6, oG x)), (x 9, .inl (E.2.1 0, 10, .inl (nf ao))), (x 10, .inl (E.2.1 0, 10, .inl (nf at1))), (x 11, .inl (E.2.1 0, 10, .inl (nf an))), (bq, .inl (E.2.1 0, 7, .inl (nf bn)))]) (by rw [show tl1 ao at1 an bn (mt, fw, ft) (k + 1) = jd (tl1 ao at1 an bn (mt, fw, ft) k) (oB ao at1 an bn k) (nI 1) (nI k) from rfl]; unfold jd; rw [if_pos h_57]) ?_
          exact ih_9 (k + 1) (by omega) (by omega)
        · refine g_aload_n hC dX8_tryLastCalls_60 rfl 5 rfl ?_
          refine g_iload hC dX8_tryLastCalls_61 0 rfl ?_
          refine g_put hC 0 8 3 [(x 12, .inr (8, oS x ((tl1 ao at1 an bn (mt, fw, ft) k).2.1) ((tl1 ao at1 an bn (mt, fw, ft) k).2.2) (nI (oB ao at1 an bn k)))), (x 7, .inr (6, oG x)), (x 9, .inl (E.2.1 0, 10, .inl (nf ao))), (x 10, .inl (E.2.1 0, 10, .inl (nf at1))), (x 11, .inl (E.2.1 0, 10, .inl (nf an))), (bq, .inl (E.2.1 0, 7, .inl (nf bn)))] .int inX8 tyX8_ok nmX8 m1_210 dX8_tryLastCalls_63 rfl rfl (by decide) rfl (by decide +kernel) rfl rfl (Nat.le_of_ble_eq_true rfl) rfl ?_
          refine g_aload_n hC dX8_tryLastCalls_66 rfl 5 rfl ?_
          refine g_iload hC dX8_tryLastCalls_67 9 rfl ?_
          refine g_iconst (v := (-1)) hC dX8_tryLastCalls_69 (by decide) ?_
          refine g_icmp_ne (tgt := 77) hC dX8_tryLastCalls_70 (by decide) (fun h_70 => ?_) (fun h_70 => ?_)
          · exact absurd rfl h_70
          · refine g_iconst (v := (nI 1)) hC dX8_tryLastCalls_73 (by decide) ?_
            refine g_goto (tgt := 78) hC dX8_tryLastCalls_74 (by decide) ?_
            refine g_put hC 0 8 1 [(x 12, .inr (8, oS x (nI 1) ((tl1 ao at1 an bn (mt, fw, ft) k).2.2) (nI (oB ao at1 an bn k)))), (x 7, .inr (6, oG x)), (x 9, .inl (E.2.1 0, 10, .inl (nf ao))), (x 10, .inl (E.2.1 0, 10, .inl (nf at1))), (x 11, .inl (E.2.1 0, 10, .inl (nf an))), (bq, .inl (E.2.1 0, 7, .inl (nf bn)))] .int inX8 tyX8_ok nmX8 m1_206 dX8_tryLastCalls_78 rfl rfl (by decide) rfl (by decide +kernel) rfl rfl (Nat.le_of_ble_eq_true rfl) rfl ?_
            refine g_aload_n hC dX8_tryLastCalls_81 rfl 5 rfl ?_
            refine g_iload hC dX8_tryLastCalls_82 9 rfl ?_
            refine g_iconst (v := (-1)) hC dX8_tryLastCalls_84 (by decide) ?_
            refine g_icmp_ne (tgt := 93) hC dX8_tryLastCalls_85 (by decide) (fun h_85 => ?_) (fun h_85 => ?_)
            · exact absurd rfl h_85
            · refine g_iload hC dX8_tryLastCalls_88 3 rfl ?_
              refine g_goto (tgt := 95) hC dX8_tryLastCalls_90 (by decide) ?_
              refine g_put hC 0 8 2 [(x 12, .inr (8, oS x (nI 1) (nI k) (nI (oB ao at1 an bn k)))), (x 7, .inr (6, oG x)), (x 9, .inl (E.2.1 0, 10, .inl (nf ao))), (x 10, .inl (E.2.1 0, 10, .inl (nf at1))), (x 11, .inl (E.2.1 0, 10, .inl (nf an))), (bq, .inl (E.2.1 0, 7, .inl (nf bn)))] .int inX8 tyX8_ok nmX8 m1_208 dX8_tryLastCalls_95 rfl rfl (by decide) rfl (by decide +kernel) rfl rfl (Nat.le_of_ble_eq_true rfl) rfl ?_
              refine g_iincN hC (q := 3) 1 [(6, .int (nI (k + 1))), (9, .int (nI (oB ao at1 an bn k))), (8, .int (nI (htr ao at1 an bn (k / 10) (k % 10)))), (7, .int (nI (k / 10))), (5, .int (nI (owS bn))), (0, .ref (x 12)), (1, .ref bq), (2, .ref (x 7)), (3, .int (nI m)), (4, .int (-1))] dX8_tryLastCalls_98 rfl rfl (by decide) rfl ?_
              refine g_goto (tgt := 9) hC dX8_tryLastCalls_101 (by decide) ?_
              refine g_lv (lv' := [(6, .int (nI (k + 1))), (5, .int (nI (owS bn))), (0, .ref (x 12)), (1, .ref bq), (2, .ref (x 7)), (3, .int (nI m)), (4, .int (-1))]) [0, 4, 5, 6, 7, 8, 9] rfl ?_
              refine g_ws (ws' := [(x 12, .inr (8, oS x ((tl1 ao at1 an bn (mt, fw, ft) (k + 1)).2.1) ((tl1 ao at1 an bn (mt, fw, ft) (k + 1)).2.2) ((tl1 ao at1 an bn (mt, fw, ft) (k + 1)).1))), (x 7, .inr (6, oG x)), (x 9, .inl (E.2.1 0, 10, .inl (nf ao))), (x 10, .inl (E.2.1 0, 10, .inl (nf at1))), (x 11, .inl (E.2.1 0, 10, .inl (nf an))), (bq, .inl (E.2.1 0, 7, .inl (nf bn)))]) (by rw [show tl1 ao at1 an bn (mt, fw, ft) (k + 1) = jd (tl1 ao at1 an bn (mt, fw, ft) k) (oB ao at1 an bn k) (nI 1) (nI k) from rfl]; unfold jd; rw [if_neg h_57]) ?_
              exact ih_9 (k + 1) (by omega) (by omega)
  refine g_lv (lv' := [(6, .int (nI 0)), (5, .int (nI (owS bn))), (0, .ref (x 12)), (1, .ref bq), (2, .ref (x 7)), (3, .int (nI m)), (4, .int (-1))]) [0, 1, 2, 3, 4, 5, 6] rfl ?_
  refine g_ws (ws' := [(x 12, .inr (8, oS x ((tl1 ao at1 an bn (mt, fw, ft) 0).2.1) ((tl1 ao at1 an bn (mt, fw, ft) 0).2.2) ((tl1 ao at1 an bn (mt, fw, ft) 0).1))), (x 7, .inr (6, oG x)), (x 9, .inl (E.2.1 0, 10, .inl (nf ao))), (x 10, .inl (E.2.1 0, 10, .inl (nf at1))), (x 11, .inl (E.2.1 0, 10, .inl (nf an))), (bq, .inl (E.2.1 0, 7, .inl (nf bn)))]) (rfl) ?_
  exact L_9 ((m - 0) + 1) 0 (by omega) (Nat.lt_succ_self _)
set_option maxHeartbeats 4000000 in
set_option maxRecDepth 100000 in
theorem f_X8_tryLastCalls2 (l : Launch) (E : Ew) (x : Nat → Nat) (fw : Int32) (ft : Int32) (mt : Int32) (ao : Nat → Nat) (at1 : Nat → Nat) (an : Nat → Nat) (bq : Nat) (bn : Nat → Nat) (m : Nat) (c : Nat) (hh : ∀ p, p < 10 → ao p < 128 ∧ at1 p < 128 ∧ an p < 128) (hb : ∀ j, j < 7 → bn j < 128) (hm : m ≤ 70) (hc : c < 70) : Fn l E 2 yX8_tryLastCalls cX8_tryLastCalls 10 none [.ref (x 12), .ref bq, .ref (x 7), .int (nI m), .int (nI c)] [(x 12, .inr (8, oS x fw ft mt)), (x 7, .inr (6, oG x)), (x 9, .inl (E.2.1 0, 10, .inl (nf ao))), (x 10, .inl (E.2.1 0, 10, .inl (nf at1))), (x 11, .inl (E.2.1 0, 10, .inl (nf an))), (bq, .inl (E.2.1 0, 7, .inl (nf bn)))] none [(x 12, .inr (8, oS x ((tl2 ao at1 an bn c (mt, fw, ft) m).2.1) ((tl2 ao at1 an bn c (mt, fw, ft) m).2.2) ((tl2 ao at1 an bn c (mt, fw, ft) m).1))), (x 7, .inr (6, oG x)), (x 9, .inl (E.2.1 0, 10, .inl (nf ao))), (x 10, .inl (E.2.1 0, 10, .inl (nf at1))), (x 11, .inl (E.2.1 0, 10, .inl (nf an))), (bq, .inl (E.2.1 0, 7, .inl (nf bn)))] := by
  refine fn_V (by decide) (Nat.le_of_ble_eq_true rfl) rfl ?_
  intro K hC hR
  show G K E 10 [(x 12, .inr (8, oS x fw ft mt)), (x 7, .inr (6, oG x)), (x 9, .inl (E.2.1 0, 10, .inl (nf ao))), (x 10, .inl (E.2.1 0, 10, .inl (nf at1))), (x 11, .inl (E.2.1 0, 10, .inl (nf an))), (bq, .inl (E.2.1 0, 7, .inl (nf bn)))] [(0, .ref (x 12)), (1, .ref bq), (2, .ref (x 7)), (3, .int (nI m)), (4, .int (nI c))] 0 []
  refine g_aload_n hC dX8_tryLastCalls_0 rfl 1 rfl ?_
  refine g_callSN hC (f_X11_owners (kl K) E bq bn) wX11_owners (List.mem_of_getElem? (i := 21) rfl) dX8_tryLastCalls_1 [5] [(x 12, .inr (8, oS x fw ft mt)), (x 7, .inr (6, oG x)), (x 9, .inl (E.2.1 0, 10, .inl (nf ao))), (x 10, .inl (E.2.1 0, 10, .inl (nf at1))), (x 11, .inl (E.2.1 0, 10, .inl (nf an))), (bq, .inl (E.2.1 0, 7, .inl (nf bn)))] (by decide) rfl (Nat.le_of_ble_eq_true rfl) rfl rfl rfl rfl rfl ?_
  refine g_val (v' := .int (nI (owS bn))) (rfl) ?_
  refine g_istore hC [(5, .int (nI (owS bn))), (0, .ref (x 12)), (1, .ref bq), (2, .ref (x 7)), (3, .int (nI m)), (4, .int (nI c))] dX8_tryLastCalls_4 (by decide) rfl ?_
  refine g_iconst (v := (nI 0)) hC dX8_tryLastCalls_6 (by decide) ?_
  refine g_istore hC [(6, .int (nI 0)), (5, .int (nI (owS bn))), (0, .ref (x 12)), (1, .ref bq), (2, .ref (x 7)), (3, .int (nI m)), (4, .int (nI c))] dX8_tryLastCalls_7 (by decide) rfl ?_
  have L_9 : ∀ (fu : Nat) (k : Nat) (hk : k ≤ m), m - k < fu → G K E 10 [(x 12, .inr (8, oS x ((tl2 ao at1 an bn c (mt, fw, ft) k).2.1) ((tl2 ao at1 an bn c (mt, fw, ft) k).2.2) ((tl2 ao at1 an bn c (mt, fw, ft) k).1))), (x 7, .inr (6, oG x)), (x 9, .inl (E.2.1 0, 10, .inl (nf ao))), (x 10, .inl (E.2.1 0, 10, .inl (nf at1))), (x 11, .inl (E.2.1 0, 10, .inl (nf an))), (bq, .inl (E.2.1 0, 7, .inl (nf bn)))] [(6, .int (nI k)), (5, .int (nI (owS bn))), (0, .ref (x 12)), (1, .ref bq), (2, .ref (x 7)), (3, .int (nI m)), (4, .int (nI c))] 9 [] := by
    intro fu
    induction fu with
    | zero => intro k hk hm_9; exact absurd hm_9 (Nat.not_lt_zero _)
    | succ fu ih_9 =>
      intro k hk hm_9
      refine g_iload hC dX8_tryLastCalls_9 0 rfl ?_
      refine g_iload_n hC dX8_tryLastCalls_11 rfl 5 rfl ?_
      refine g_icmp_geN (tgt := 104) hC dX8_tryLastCalls_12 (by decide) (by omega) (by omega) (fun h_12 => ?_) (fun h_12 => ?_)
      · exact g_ws (by rw [show k = m by omega]) (hR _ _ dX8_tryLastCalls_104)
      · refine g_iload hC dX8_tryLastCalls_15 0 rfl ?_
        refine g_bipush (v := (nI 10)) hC dX8_tryLastCalls_17 (by decide) ?_
        refine g_idivN hC dX8_tryLastCalls_19 (by omega) (by omega) (by omega) ?_
        refine g_istore hC [(7, .int (nI (k / 10))), (6, .int (nI k)), (5, .int (nI (owS bn))), (0, .ref (x 12)), (1, .ref bq), (2, .ref (x 7)), (3, .int (nI m)), (4, .int (nI c))] dX8_tryLastCalls_20 (by decide) rfl ?_
        refine g_aload_n hC dX8_tryLastCalls_22 rfl 5 rfl ?_
        refine g_aload_n hC dX8_tryLastCalls_23 rfl 4 rfl ?_
        refine g_iload hC dX8_tryLastCalls_24 0 rfl ?_
        refine g_iload hC dX8_tryLastCalls_26 1 rfl ?_
        refine g_bipush (v := (nI 10)) hC dX8_tryLastCalls_28 (by decide) ?_
        refine g_iremN hC dX8_tryLastCalls_30 (by omega) (by omega) (by omega) ?_
        refine g_callV hC (f_X6_turners (kl K) E x ao at1 an bq bn (k / 10) (k % 10) (by omega) (by omega) (Nat.lt_trans (hb _ (by omega)) (by decide)) (Nat.lt_trans (hh _ (by omega)).2.1 (by decide))) wX6_turners m3_35 dX8_tryLastCalls_31 [1, 2, 3, 4, 5] [(x 12, .inr (8, oS x ((tl2 ao at1 an bn c (mt, fw, ft) k).2.1) ((tl2 ao at1 an bn c (mt, fw, ft) k).2.2) ((tl2 ao at1 an bn c (mt, fw, ft) k).1))), (x 7, .inr (6, oG x)), (x 9, .inl (E.2.1 0, 10, .inl (nf ao))), (x 10, .inl (E.2.1 0, 10, .inl (nf at1))), (x 11, .inl (E.2.1 0, 10, .inl (nf an))), (bq, .inl (E.2.1 0, 7, .inl (nf bn)))] 1 6 rfl rfl (by decide) rfl (Nat.le_of_ble_eq_true rfl) rfl rfl rfl rfl rfl ?_
        refine g_istore hC [(8, .int (nI (htr ao at1 an bn (k / 10) (k % 10)))), (7, .int (nI (k / 10))), (6, .int (nI k)), (5, .int (nI (owS bn))), (0, .ref (x 12)), (1, .ref bq), (2, .ref (x 7)), (3, .int (nI m)), (4, .int (nI c))] dX8_tryLastCalls_34 (by decide) rfl ?_
        refine g_aload_n hC dX8_tryLastCalls_36 rfl 4 rfl ?_
        refine g_iload hC dX8_tryLastCalls_37 3 rfl ?_
        refine g_iload hC dX8_tryLastCalls_39 1 rfl ?_
        refine g_iload hC dX8_tryLastCalls_41 0 rfl ?_
        refine g_callV hC (f_X8_ownersBehind (kl K) E x (owS bn) (k / 10) (htr ao at1 an bn (k / 10) (k % 10)) (owS_128 bn) (by omega) (htr_128 (hh _ (by omega)))) wX8_ownersBehind m3_59 dX8_tryLastCalls_43 [] [(x 12, .inr (8, oS x ((tl2 ao at1 an bn c (mt, fw, ft) k).2.1) ((tl2 ao at1 an bn c (mt, fw, ft) k).2.2) ((tl2 ao at1 an bn c (mt, fw, ft) k).1))), (x 7, .inr (6, oG x)), (x 9, .inl (E.2.1 0, 10, .inl (nf ao))), (x 10, .inl (E.2.1 0, 10, .inl (nf at1))), (x 11, .inl (E.2.1 0, 10, .inl (nf an))), (bq, .inl (E.2.1 0, 7, .inl (nf bn)))] 0 8 rfl rfl (by decide) rfl (Nat.le_of_ble_eq_true rfl) rfl rfl rfl rfl rfl ?_
        refine g_callS hC (f_J6_bitCount_0f7a4 (kl K) E (obh (owS bn) (k / 10) (htr ao at1 an bn (k / 10) (k % 10))) (Nat.lt_trans (obh_128 (owS_128 bn) (htr_128 (hh _ (by omega)))) (by decide))) wJ6_bitCount_0f7a4 m3_54 dX8_tryLastCalls_46 [] [(x 12, .inr (8, oS x ((tl2 ao at1 an bn c (mt, fw, ft) k).2.1) ((tl2 ao at1 an bn c (mt, fw, ft) k).2.2) ((tl2 ao at1 an bn c (mt, fw, ft) k).1))), (x 7, .inr (6, oG x)), (x 9, .inl (E.2.1 0, 10, .inl (nf ao))), (x 10, .inl (E.2.1 0, 10, .inl (nf at1))), (x 11, .inl (E.2.1 0, 10, .inl (nf an))), (bq, .inl (E.2.1 0, 7, .inl (nf bn)))] (by decide) rfl (Nat.le_of_ble_eq_true rfl) rfl rfl rfl rfl rfl ?_
        refine g_val (v' := .int (nI (oB ao at1 an bn k))) (rfl) ?_
        refine g_istore hC [(9, .int (nI (oB ao at1 an bn k))), (8, .int (nI (htr ao at1 an bn (k / 10) (k % 10)))), (7, .int (nI (k / 10))), (6, .int (nI k)), (5, .int (nI (owS bn))), (0, .ref (x 12)), (1, .ref bq), (2, .ref (x 7)), (3, .int (nI m)), (4, .int (nI c))] dX8_tryLastCalls_49 (by decide) rfl ?_
        refine g_iload hC dX8_tryLastCalls_51 0 rfl ?_
        refine g_aload_n hC dX8_tryLastCalls_53 rfl 5 rfl ?_
        refine g_get hC 0 8 3 inX8 m1_210 dX8_tryLastCalls_54 rfl rfl (by decide) rfl ?_
        refine g_icmp_le (tgt := 98) hC dX8_tryLastCalls_57 (by decide) (fun h_57 => ?_) (fun h_57 => ?_)
        · refine g_iincN hC (q := 3) 1 [(6, .int (nI (k + 1))), (9, .int (nI (oB ao at1 an bn k))), (8, .int (nI (htr ao at1 an bn (k / 10) (k % 10)))), (7, .int (nI (k / 10))), (5, .int (nI (owS bn))), (0, .ref (x 12)), (1, .ref bq), (2, .ref (x 7)), (3, .int (nI m)), (4, .int (nI c))] dX8_tryLastCalls_98 rfl rfl (by decide) rfl ?_
          refine g_goto (tgt := 9) hC dX8_tryLastCalls_101 (by decide) ?_
          refine g_lv (lv' := [(6, .int (nI (k + 1))), (5, .int (nI (owS bn))), (0, .ref (x 12)), (1, .ref bq), (2, .ref (x 7)), (3, .int (nI m)), (4, .int (nI c))]) [0, 4, 5, 6, 7, 8, 9] rfl ?_
          refine g_ws (ws' := [(x 12, .inr (8, oS x ((tl2 ao at1 an bn c (mt, fw, ft) (k + 1)).2.1) ((tl2 ao at1 an bn c (mt, fw, ft) (k + 1)).2.2) ((tl2 ao at1 an bn c (mt, fw, ft) (k + 1)).1))), (x 7, .inr (6, oG x)), (x 9, .inl (E.2.1 0, 10, .inl (nf ao))), (x 10, .inl (E.2.1 0, 10, .inl (nf at1))), (x 11, .inl (E.2.1 0, 10, .inl (nf an))), (bq, .inl (E.2.1 0, 7, .inl (nf bn)))]) (by rw [show tl2 ao at1 an bn c (mt, fw, ft) (k + 1) = jd (tl2 ao at1 an bn c (mt, fw, ft) k) (oB ao at1 an bn k) (nI 2) (nI c) from rfl]; unfold jd; rw [if_pos h_57]) ?_
          exact ih_9 (k + 1) (by omega) (by omega)
        · refine g_aload_n hC dX8_tryLastCalls_60 rfl 5 rfl ?_
          refine g_iload hC dX8_tryLastCalls_61 0 rfl ?_
          refine g_put hC 0 8 3 [(x 12, .inr (8, oS x ((tl2 ao at1 an bn c (mt, fw, ft) k).2.1) ((tl2 ao at1 an bn c (mt, fw, ft) k).2.2) (nI (oB ao at1 an bn k)))), (x 7, .inr (6, oG x)), (x 9, .inl (E.2.1 0, 10, .inl (nf ao))), (x 10, .inl (E.2.1 0, 10, .inl (nf at1))), (x 11, .inl (E.2.1 0, 10, .inl (nf an))), (bq, .inl (E.2.1 0, 7, .inl (nf bn)))] .int inX8 tyX8_ok nmX8 m1_210 dX8_tryLastCalls_63 rfl rfl (by decide) rfl (by decide +kernel) rfl rfl (Nat.le_of_ble_eq_true rfl) rfl ?_
          refine g_aload_n hC dX8_tryLastCalls_66 rfl 5 rfl ?_
          refine g_iload hC dX8_tryLastCalls_67 9 rfl ?_
          refine g_iconst (v := (-1)) hC dX8_tryLastCalls_69 (by decide) ?_
          refine g_icmp_ne (tgt := 77) hC dX8_tryLastCalls_70 (by decide) (fun h_70 => ?_) (fun h_70 => ?_)
          · refine g_iconst (v := (nI 2)) hC dX8_tryLastCalls_77 (by decide) ?_
            refine g_put hC 0 8 1 [(x 12, .inr (8, oS x (nI 2) ((tl2 ao at1 an bn c (mt, fw, ft) k).2.2) (nI (oB ao at1 an bn k)))), (x 7, .inr (6, oG x)), (x 9, .inl (E.2.1 0, 10, .inl (nf ao))), (x 10, .inl (E.2.1 0, 10, .inl (nf at1))), (x 11, .inl (E.2.1 0, 10, .inl (nf an))), (bq, .inl (E.2.1 0, 7, .inl (nf bn)))] .int inX8 tyX8_ok nmX8 m1_206 dX8_tryLastCalls_78 rfl rfl (by decide) rfl (by decide +kernel) rfl rfl (Nat.le_of_ble_eq_true rfl) rfl ?_
            refine g_aload_n hC dX8_tryLastCalls_81 rfl 5 rfl ?_
            refine g_iload hC dX8_tryLastCalls_82 9 rfl ?_
            refine g_iconst (v := (-1)) hC dX8_tryLastCalls_84 (by decide) ?_
            refine g_icmp_ne (tgt := 93) hC dX8_tryLastCalls_85 (by decide) (fun h_85 => ?_) (fun h_85 => ?_)
            · refine g_iload hC dX8_tryLastCalls_93 9 rfl ?_
              refine g_put hC 0 8 2 [(x 12, .inr (8, oS x (nI 2) (nI c) (nI (oB ao at1 an bn k)))), (x 7, .inr (6, oG x)), (x 9, .inl (E.2.1 0, 10, .inl (nf ao))), (x 10, .inl (E.2.1 0, 10, .inl (nf at1))), (x 11, .inl (E.2.1 0, 10, .inl (nf an))), (bq, .inl (E.2.1 0, 7, .inl (nf bn)))] .int inX8 tyX8_ok nmX8 m1_208 dX8_tryLastCalls_95 rfl rfl (by decide) rfl (by decide +kernel) rfl rfl (Nat.le_of_ble_eq_true rfl) rfl ?_
              refine g_iincN hC (q := 3) 1 [(6, .int (nI (k + 1))), (9, .int (nI (oB ao at1 an bn k))), (8, .int (nI (htr ao at1 an bn (k / 10) (k % 10)))), (7, .int (nI (k / 10))), (5, .int (nI (owS bn))), (0, .ref (x 12)), (1, .ref bq), (2, .ref (x 7)), (3, .int (nI m)), (4, .int (nI c))] dX8_tryLastCalls_98 rfl rfl (by decide) rfl ?_
              refine g_goto (tgt := 9) hC dX8_tryLastCalls_101 (by decide) ?_
              refine g_lv (lv' := [(6, .int (nI (k + 1))), (5, .int (nI (owS bn))), (0, .ref (x 12)), (1, .ref bq), (2, .ref (x 7)), (3, .int (nI m)), (4, .int (nI c))]) [0, 4, 5, 6, 7, 8, 9] rfl ?_
              refine g_ws (ws' := [(x 12, .inr (8, oS x ((tl2 ao at1 an bn c (mt, fw, ft) (k + 1)).2.1) ((tl2 ao at1 an bn c (mt, fw, ft) (k + 1)).2.2) ((tl2 ao at1 an bn c (mt, fw, ft) (k + 1)).1))), (x 7, .inr (6, oG x)), (x 9, .inl (E.2.1 0, 10, .inl (nf ao))), (x 10, .inl (E.2.1 0, 10, .inl (nf at1))), (x 11, .inl (E.2.1 0, 10, .inl (nf an))), (bq, .inl (E.2.1 0, 7, .inl (nf bn)))]) (by rw [show tl2 ao at1 an bn c (mt, fw, ft) (k + 1) = jd (tl2 ao at1 an bn c (mt, fw, ft) k) (oB ao at1 an bn k) (nI 2) (nI c) from rfl]; unfold jd; rw [if_neg h_57]) ?_
              exact ih_9 (k + 1) (by omega) (by omega)
            · exact absurd h_85 (nI_m1 (by omega))
          · exact absurd h_70 (nI_m1 (by omega))
  refine g_lv (lv' := [(6, .int (nI 0)), (5, .int (nI (owS bn))), (0, .ref (x 12)), (1, .ref bq), (2, .ref (x 7)), (3, .int (nI m)), (4, .int (nI c))]) [0, 1, 2, 3, 4, 5, 6] rfl ?_
  refine g_ws (ws' := [(x 12, .inr (8, oS x ((tl2 ao at1 an bn c (mt, fw, ft) 0).2.1) ((tl2 ao at1 an bn c (mt, fw, ft) 0).2.2) ((tl2 ao at1 an bn c (mt, fw, ft) 0).1))), (x 7, .inr (6, oG x)), (x 9, .inl (E.2.1 0, 10, .inl (nf ao))), (x 10, .inl (E.2.1 0, 10, .inl (nf at1))), (x 11, .inl (E.2.1 0, 10, .inl (nf an))), (bq, .inl (E.2.1 0, 7, .inl (nf bn)))]) (rfl) ?_
  exact L_9 ((m - 0) + 1) 0 (by omega) (Nat.lt_succ_self _)
set_option maxHeartbeats 4000000 in
set_option maxRecDepth 100000 in
theorem f_X8_ownAgain (l : Launch) (E : Ew) (x : Nat → Nat) (fw : Int32) (ft : Int32) (mt : Int32) (bh : Nat → Nat) (h : Nat → Nat) (da : Int32) (de : Int32) (no : Int32) (pa : Int32) (n : Nat) (bn : Nat → Nat) (ao : Nat → Nat) (at1 : Nat → Nat) (an : Nat → Nat) (hn7 : n ≤ 7) (hh : ∀ p, p < 10 → ao p < 128 ∧ at1 p < 128 ∧ an p < 128) (hb : ∀ j, j < 7 → bn j < 128) : Fe l E 3 yX8_ownAgain cX8_ownAgain 5 none [.ref (x 12), .ref (h 0), .ref (x 7)] [(x 12, .inr (8, oS x fw ft mt)), (x 13, .inl (E.2.1 0, 7, .inl (nf bh))), (x 7, .inr (6, oG x)), (x 9, .inl (E.2.1 0, 10, .inl (nf ao))), (x 10, .inl (E.2.1 0, 10, .inl (nf at1))), (x 11, .inl (E.2.1 0, 10, .inl (nf an))), (h 0, .inr (5, oH h da (nI n) de no pa)), (h 3, .inl (E.2.1 0, 7, .inl (nf bn)))] none (fun jj => [(x 12, .inr (8, oS x ((oaF ao at1 an bn n).2.1) ((oaF ao at1 an bn n).2.2) ((oaF ao at1 an bn n).1))), (x 13, .inl (E.2.1 0, 7, .inl (jj 0))), (x 7, .inr (6, oG x)), (x 9, .inl (E.2.1 0, 10, .inl (nf ao))), (x 10, .inl (E.2.1 0, 10, .inl (nf at1))), (x 11, .inl (E.2.1 0, 10, .inl (nf an))), (h 0, .inr (5, oH h da (nI n) de no pa)), (h 3, .inl (E.2.1 0, 7, .inl (nf bn)))]) := by
  refine fe_V (by decide) (Nat.le_of_ble_eq_true rfl) (fun _ => rfl) ?_
  intro K hC hR
  show G K E 5 [(x 12, .inr (8, oS x fw ft mt)), (x 13, .inl (E.2.1 0, 7, .inl (nf bh))), (x 7, .inr (6, oG x)), (x 9, .inl (E.2.1 0, 10, .inl (nf ao))), (x 10, .inl (E.2.1 0, 10, .inl (nf at1))), (x 11, .inl (E.2.1 0, 10, .inl (nf an))), (h 0, .inr (5, oH h da (nI n) de no pa)), (h 3, .inl (E.2.1 0, 7, .inl (nf bn)))] [(0, .ref (x 12)), (1, .ref (h 0)), (2, .ref (x 7))] 0 []
  refine g_aload_n hC dX8_ownAgain_0 rfl 0 rfl ?_
  refine g_iconst (v := (nI 0)) hC dX8_ownAgain_1 (by decide) ?_
  refine g_put hC 0 8 1 [(x 12, .inr (8, oS x (nI 0) ft mt)), (x 13, .inl (E.2.1 0, 7, .inl (nf bh))), (x 7, .inr (6, oG x)), (x 9, .inl (E.2.1 0, 10, .inl (nf ao))), (x 10, .inl (E.2.1 0, 10, .inl (nf at1))), (x 11, .inl (E.2.1 0, 10, .inl (nf an))), (h 0, .inr (5, oH h da (nI n) de no pa)), (h 3, .inl (E.2.1 0, 7, .inl (nf bn)))] .int inX8 tyX8_ok nmX8 m1_206 dX8_ownAgain_2 rfl rfl (by decide) rfl (by decide +kernel) rfl rfl (Nat.le_of_ble_eq_true rfl) rfl ?_
  refine g_aload_n hC dX8_ownAgain_5 rfl 0 rfl ?_
  refine g_iconst (v := (-1)) hC dX8_ownAgain_6 (by decide) ?_
  refine g_put hC 0 8 2 [(x 12, .inr (8, oS x (nI 0) (-1) mt)), (x 13, .inl (E.2.1 0, 7, .inl (nf bh))), (x 7, .inr (6, oG x)), (x 9, .inl (E.2.1 0, 10, .inl (nf ao))), (x 10, .inl (E.2.1 0, 10, .inl (nf at1))), (x 11, .inl (E.2.1 0, 10, .inl (nf an))), (h 0, .inr (5, oH h da (nI n) de no pa)), (h 3, .inl (E.2.1 0, 7, .inl (nf bn)))] .int inX8 tyX8_ok nmX8 m1_208 dX8_ownAgain_7 rfl rfl (by decide) rfl (by decide +kernel) rfl rfl (Nat.le_of_ble_eq_true rfl) rfl ?_
  refine g_aload_n hC dX8_ownAgain_10 rfl 0 rfl ?_
  refine g_aload_n hC dX8_ownAgain_11 rfl 1 rfl ?_
  refine g_get hC 6 5 4 inX5 m1_51 dX8_ownAgain_12 rfl rfl (by decide) rfl ?_
  refine g_callSN hC (f_X11_owners (kl K) E (h 3) bn) wX11_owners (List.mem_of_getElem? (i := 21) rfl) dX8_ownAgain_15 [7] [(x 12, .inr (8, oS x (nI 0) (-1) mt)), (x 13, .inl (E.2.1 0, 7, .inl (nf bh))), (x 7, .inr (6, oG x)), (x 9, .inl (E.2.1 0, 10, .inl (nf ao))), (x 10, .inl (E.2.1 0, 10, .inl (nf at1))), (x 11, .inl (E.2.1 0, 10, .inl (nf an))), (h 0, .inr (5, oH h da (nI n) de no pa)), (h 3, .inl (E.2.1 0, 7, .inl (nf bn)))] (by decide) rfl (Nat.le_of_ble_eq_true rfl) rfl rfl rfl rfl rfl ?_
  refine g_val (v' := .int (nI (owS bn))) (rfl) ?_
  refine g_callS hC (f_J6_bitCount_0f7a4 (kl K) E (owS bn) (Nat.lt_trans (owS_128 bn) (by decide))) wJ6_bitCount_0f7a4 m3_54 dX8_ownAgain_18 [] [(x 12, .inr (8, oS x (nI 0) (-1) mt)), (x 13, .inl (E.2.1 0, 7, .inl (nf bh))), (x 7, .inr (6, oG x)), (x 9, .inl (E.2.1 0, 10, .inl (nf ao))), (x 10, .inl (E.2.1 0, 10, .inl (nf at1))), (x 11, .inl (E.2.1 0, 10, .inl (nf an))), (h 0, .inr (5, oH h da (nI n) de no pa)), (h 3, .inl (E.2.1 0, 7, .inl (nf bn)))] (by decide) rfl (Nat.le_of_ble_eq_true rfl) rfl rfl rfl rfl rfl ?_
  refine g_put hC 0 8 3 [(x 12, .inr (8, oS x (nI 0) (-1) (nI (ct (owS bn).testBit 31)))), (x 13, .inl (E.2.1 0, 7, .inl (nf bh))), (x 7, .inr (6, oG x)), (x 9, .inl (E.2.1 0, 10, .inl (nf ao))), (x 10, .inl (E.2.1 0, 10, .inl (nf at1))), (x 11, .inl (E.2.1 0, 10, .inl (nf an))), (h 0, .inr (5, oH h da (nI n) de no pa)), (h 3, .inl (E.2.1 0, 7, .inl (nf bn)))] .int inX8 tyX8_ok nmX8 m1_210 dX8_ownAgain_21 rfl rfl (by decide) rfl (by decide +kernel) rfl rfl (Nat.le_of_ble_eq_true rfl) rfl ?_
  refine g_bipush (v := (nI 10)) hC dX8_ownAgain_24 (by decide) ?_
  refine g_aload_n hC dX8_ownAgain_26 rfl 1 rfl ?_
  refine g_get hC 6 5 1 inX5 m1_41 dX8_ownAgain_27 rfl rfl (by decide) rfl ?_
  refine g_imulN hC dX8_ownAgain_30 ?_
  refine g_istore_n hC [(3, .int (nI (10 * n))), (0, .ref (x 12)), (1, .ref (h 0)), (2, .ref (x 7))] dX8_ownAgain_31 rfl (by decide) rfl ?_
  refine g_aload_n hC dX8_ownAgain_32 rfl 1 rfl ?_
  refine g_aload_n hC dX8_ownAgain_33 rfl 2 rfl ?_
  refine g_get hC 6 5 4 inX5 m1_51 dX8_ownAgain_34 rfl rfl (by decide) rfl ?_
  refine g_aload_n hC dX8_ownAgain_37 rfl 3 rfl ?_
  refine g_iload_n hC dX8_ownAgain_38 rfl 0 rfl ?_
  refine g_iconst (v := (-1)) hC dX8_ownAgain_39 (by decide) ?_
  refine g_callV hC (f_X8_tryLastCalls1 (kl K) E x (nI 0) (-1) (nI (ct (owS bn).testBit 31)) ao at1 an (h 3) bn (10 * n) (hh) (hb) (by omega)) wX8_tryLastCalls m3_55 dX8_ownAgain_40 [0, 2, 3, 4, 5, 7] [(x 12, .inr (8, oS x ((tl1 ao at1 an bn ((nI (ct (owS bn).testBit 31)), (nI 0), (-1)) (10 * n)).2.1) ((tl1 ao at1 an bn ((nI (ct (owS bn).testBit 31)), (nI 0), (-1)) (10 * n)).2.2) ((tl1 ao at1 an bn ((nI (ct (owS bn).testBit 31)), (nI 0), (-1)) (10 * n)).1))), (x 13, .inl (E.2.1 0, 7, .inl (nf bh))), (x 7, .inr (6, oG x)), (x 9, .inl (E.2.1 0, 10, .inl (nf ao))), (x 10, .inl (E.2.1 0, 10, .inl (nf at1))), (x 11, .inl (E.2.1 0, 10, .inl (nf an))), (h 0, .inr (5, oH h da (nI n) de no pa)), (h 3, .inl (E.2.1 0, 7, .inl (nf bn)))] 0 8 rfl rfl (by decide) rfl (Nat.le_of_ble_eq_true rfl) rfl rfl rfl rfl rfl ?_
  refine g_iconst (v := (nI 0)) hC dX8_ownAgain_43 (by decide) ?_
  refine g_istore hC [(4, .int (nI 0)), (3, .int (nI (10 * n))), (0, .ref (x 12)), (1, .ref (h 0)), (2, .ref (x 7))] dX8_ownAgain_44 (by decide) rfl ?_
  have L_46 : ∀ (fu : Nat) (k : Nat) (bg : Nat → Nat) (hk : k ≤ 10 * n), 10 * n - k < fu → G K E 5 [(x 12, .inr (8, oS x ((tl3 ao at1 an bn n (tl1 ao at1 an bn (nI (ct (owS bn).testBit 31), nI 0, -1) (10 * n)) k).2.1) ((tl3 ao at1 an bn n (tl1 ao at1 an bn (nI (ct (owS bn).testBit 31), nI 0, -1) (10 * n)) k).2.2) ((tl3 ao at1 an bn n (tl1 ao at1 an bn (nI (ct (owS bn).testBit 31), nI 0, -1) (10 * n)) k).1))), (x 13, .inl (E.2.1 0, 7, .inl (nf bg))), (x 7, .inr (6, oG x)), (x 9, .inl (E.2.1 0, 10, .inl (nf ao))), (x 10, .inl (E.2.1 0, 10, .inl (nf at1))), (x 11, .inl (E.2.1 0, 10, .inl (nf an))), (h 0, .inr (5, oH h da (nI n) de no pa)), (h 3, .inl (E.2.1 0, 7, .inl (nf bn)))] [(4, .int (nI k)), (3, .int (nI (10 * n))), (0, .ref (x 12)), (1, .ref (h 0)), (2, .ref (x 7))] 46 [] := by
    intro fu
    induction fu with
    | zero => intro k bg hk hm_46; exact absurd hm_46 (Nat.not_lt_zero _)
    | succ fu ih_46 =>
      intro k bg hk hm_46
      refine g_iload hC dX8_ownAgain_46 0 rfl ?_
      refine g_iload_n hC dX8_ownAgain_48 rfl 1 rfl ?_
      refine g_icmp_geN (tgt := 78) hC dX8_ownAgain_49 (by decide) (by omega) (by omega) (fun h_49 => ?_) (fun h_49 => ?_)
      · exact g_ws (by rw [show k = 10 * n by omega]; rfl) (hR (fun jx => (nf bg)) _ _ dX8_ownAgain_78)
      · refine g_aload_n hC dX8_ownAgain_52 rfl 2 rfl ?_
        refine g_aload_n hC dX8_ownAgain_53 rfl 3 rfl ?_
        refine g_aload_n hC dX8_ownAgain_54 rfl 4 rfl ?_
        refine g_iload hC dX8_ownAgain_55 0 rfl ?_
        refine g_callV hC (f_X8_callOnce (kl K) E x ((tl3 ao at1 an bn n (tl1 ao at1 an bn (nI (ct (owS bn).testBit 31), nI 0, -1) (10 * n)) k).2.1) ((tl3 ao at1 an bn n (tl1 ao at1 an bn (nI (ct (owS bn).testBit 31), nI 0, -1) (10 * n)) k).2.2) ((tl3 ao at1 an bn n (tl1 ao at1 an bn (nI (ct (owS bn).testBit 31), nI 0, -1) (10 * n)) k).1) bg h da de no pa n bn ao at1 an k (hh) (hb) (by omega)) wX8_callOnce m3_37 dX8_ownAgain_57 [0, 1, 2, 3, 4, 5, 6, 7] [(x 12, .inr (8, oS x ((tl3 ao at1 an bn n (tl1 ao at1 an bn (nI (ct (owS bn).testBit 31), nI 0, -1) (10 * n)) k).2.1) ((tl3 ao at1 an bn n (tl1 ao at1 an bn (nI (ct (owS bn).testBit 31), nI 0, -1) (10 * n)) k).2.2) ((tl3 ao at1 an bn n (tl1 ao at1 an bn (nI (ct (owS bn).testBit 31), nI 0, -1) (10 * n)) k).1))), (x 13, .inl (E.2.1 0, 7, .inl (nf (cO ao at1 an bn k)))), (x 7, .inr (6, oG x)), (x 9, .inl (E.2.1 0, 10, .inl (nf ao))), (x 10, .inl (E.2.1 0, 10, .inl (nf at1))), (x 11, .inl (E.2.1 0, 10, .inl (nf an))), (h 0, .inr (5, oH h da (nI n) de no pa)), (h 3, .inl (E.2.1 0, 7, .inl (nf bn)))] 0 8 rfl rfl (by decide) rfl (Nat.le_of_ble_eq_true rfl) rfl rfl rfl rfl rfl ?_
        refine g_aload_n hC dX8_ownAgain_60 rfl 2 rfl ?_
        refine g_aload_n hC dX8_ownAgain_61 rfl 2 rfl ?_
        refine g_get hC 0 8 0 inX8 m1_205 dX8_ownAgain_62 rfl rfl (by decide) rfl ?_
        refine g_aload_n hC dX8_ownAgain_65 rfl 4 rfl ?_
        refine g_iload_n hC dX8_ownAgain_66 rfl 1 rfl ?_
        refine g_iload hC dX8_ownAgain_67 0 rfl ?_
        refine g_callV hC (f_X8_tryLastCalls2 (kl K) E x ((tl3 ao at1 an bn n (tl1 ao at1 an bn (nI (ct (owS bn).testBit 31), nI 0, -1) (10 * n)) k).2.1) ((tl3 ao at1 an bn n (tl1 ao at1 an bn (nI (ct (owS bn).testBit 31), nI 0, -1) (10 * n)) k).2.2) ((tl3 ao at1 an bn n (tl1 ao at1 an bn (nI (ct (owS bn).testBit 31), nI 0, -1) (10 * n)) k).1) ao at1 an (x 13) (cO ao at1 an bn k) (10 * n) k (hh) (stl_128 hb (htr_128 (hh _ (by omega)))) (by omega) (by omega)) wX8_tryLastCalls m3_55 dX8_ownAgain_69 [0, 2, 3, 4, 5, 1] [(x 12, .inr (8, oS x ((tl2 ao at1 an (cO ao at1 an bn k) k (((tl3 ao at1 an bn n (tl1 ao at1 an bn (nI (ct (owS bn).testBit 31), nI 0, -1) (10 * n)) k).1), ((tl3 ao at1 an bn n (tl1 ao at1 an bn (nI (ct (owS bn).testBit 31), nI 0, -1) (10 * n)) k).2.1), ((tl3 ao at1 an bn n (tl1 ao at1 an bn (nI (ct (owS bn).testBit 31), nI 0, -1) (10 * n)) k).2.2)) (10 * n)).2.1) ((tl2 ao at1 an (cO ao at1 an bn k) k (((tl3 ao at1 an bn n (tl1 ao at1 an bn (nI (ct (owS bn).testBit 31), nI 0, -1) (10 * n)) k).1), ((tl3 ao at1 an bn n (tl1 ao at1 an bn (nI (ct (owS bn).testBit 31), nI 0, -1) (10 * n)) k).2.1), ((tl3 ao at1 an bn n (tl1 ao at1 an bn (nI (ct (owS bn).testBit 31), nI 0, -1) (10 * n)) k).2.2)) (10 * n)).2.2) ((tl2 ao at1 an (cO ao at1 an bn k) k (((tl3 ao at1 an bn n (tl1 ao at1 an bn (nI (ct (owS bn).testBit 31), nI 0, -1) (10 * n)) k).1), ((tl3 ao at1 an bn n (tl1 ao at1 an bn (nI (ct (owS bn).testBit 31), nI 0, -1) (10 * n)) k).2.1), ((tl3 ao at1 an bn n (tl1 ao at1 an bn (nI (ct (owS bn).testBit 31), nI 0, -1) (10 * n)) k).2.2)) (10 * n)).1))), (x 13, .inl (E.2.1 0, 7, .inl (nf (cO ao at1 an bn k)))), (x 7, .inr (6, oG x)), (x 9, .inl (E.2.1 0, 10, .inl (nf ao))), (x 10, .inl (E.2.1 0, 10, .inl (nf at1))), (x 11, .inl (E.2.1 0, 10, .inl (nf an))), (h 0, .inr (5, oH h da (nI n) de no pa)), (h 3, .inl (E.2.1 0, 7, .inl (nf bn)))] 0 8 rfl rfl (by decide) rfl (Nat.le_of_ble_eq_true rfl) rfl rfl rfl rfl rfl ?_
        refine g_iincN hC (q := 0) 1 [(4, .int (nI (k + 1))), (3, .int (nI (10 * n))), (0, .ref (x 12)), (1, .ref (h 0)), (2, .ref (x 7))] dX8_ownAgain_72 rfl rfl (by decide) rfl ?_
        refine g_goto (tgt := 46) hC dX8_ownAgain_75 (by decide) ?_
        refine g_lv (lv' := [(4, .int (nI (k + 1))), (3, .int (nI (10 * n))), (0, .ref (x 12)), (1, .ref (h 0)), (2, .ref (x 7))]) [0, 1, 2, 3, 4] rfl ?_
        refine g_ws (ws' := [(x 12, .inr (8, oS x ((tl3 ao at1 an bn n (tl1 ao at1 an bn (nI (ct (owS bn).testBit 31), nI 0, -1) (10 * n)) (k + 1)).2.1) ((tl3 ao at1 an bn n (tl1 ao at1 an bn (nI (ct (owS bn).testBit 31), nI 0, -1) (10 * n)) (k + 1)).2.2) ((tl3 ao at1 an bn n (tl1 ao at1 an bn (nI (ct (owS bn).testBit 31), nI 0, -1) (10 * n)) (k + 1)).1))), (x 13, .inl (E.2.1 0, 7, .inl (nf (cO ao at1 an bn k)))), (x 7, .inr (6, oG x)), (x 9, .inl (E.2.1 0, 10, .inl (nf ao))), (x 10, .inl (E.2.1 0, 10, .inl (nf at1))), (x 11, .inl (E.2.1 0, 10, .inl (nf an))), (h 0, .inr (5, oH h da (nI n) de no pa)), (h 3, .inl (E.2.1 0, 7, .inl (nf bn)))]) (rfl) ?_
        exact ih_46 (k + 1) (cO ao at1 an bn k) (by omega) (by omega)
  refine g_lv (lv' := [(4, .int (nI 0)), (3, .int (nI (10 * n))), (0, .ref (x 12)), (1, .ref (h 0)), (2, .ref (x 7))]) [0, 1, 2, 3, 4] rfl ?_
  refine g_ws (ws' := [(x 12, .inr (8, oS x ((tl3 ao at1 an bn n (tl1 ao at1 an bn (nI (ct (owS bn).testBit 31), nI 0, -1) (10 * n)) 0).2.1) ((tl3 ao at1 an bn n (tl1 ao at1 an bn (nI (ct (owS bn).testBit 31), nI 0, -1) (10 * n)) 0).2.2) ((tl3 ao at1 an bn n (tl1 ao at1 an bn (nI (ct (owS bn).testBit 31), nI 0, -1) (10 * n)) 0).1))), (x 13, .inl (E.2.1 0, 7, .inl (nf bh))), (x 7, .inr (6, oG x)), (x 9, .inl (E.2.1 0, 10, .inl (nf ao))), (x 10, .inl (E.2.1 0, 10, .inl (nf at1))), (x 11, .inl (E.2.1 0, 10, .inl (nf an))), (h 0, .inr (5, oH h da (nI n) de no pa)), (h 3, .inl (E.2.1 0, 7, .inl (nf bn)))]) (rfl) ?_
  exact L_46 ((10 * n - 0) + 1) 0 bh (by omega) (Nat.lt_succ_self _)
set_option maxHeartbeats 4000000 in
set_option maxRecDepth 100000 in
theorem f_X8_ownersBehindWeeks (l : Launch) (E : Ew) (x : Nat → Nat) (fw : Int32) (ft : Int32) (mt : Int32) (bh : Nat → Nat) (h : Nat → Nat) (da : Int32) (de : Int32) (no : Int32) (pa : Int32) (n : Nat) (bn : Nat → Nat) (ao : Nat → Nat) (at1 : Nat → Nat) (an : Nat → Nat) (s : Nat) (w : Nat) (hn7 : n ≤ 7) (hh : ∀ p, p < 10 → ao p < 128 ∧ at1 p < 128 ∧ an p < 128) (hb : ∀ j, j < 7 → bn j < 128) (hn0 : 0 < n) (hs : s < 1000000) (hw : w < 61) : Fn l E 2 yX8_ownersBehindWeeks cX8_ownersBehindWeeks 10 (some .int) [.ref (x 12), .ref (h 0), .ref (x 7), .int (nI s), .int (nI w)] [(x 12, .inr (8, oS x fw ft mt)), (x 13, .inl (E.2.1 0, 7, .inl (nf bh))), (x 7, .inr (6, oG x)), (x 9, .inl (E.2.1 0, 10, .inl (nf ao))), (x 10, .inl (E.2.1 0, 10, .inl (nf at1))), (x 11, .inl (E.2.1 0, 10, .inl (nf an))), (h 0, .inr (5, oH h da (nI n) de no pa)), (h 3, .inl (E.2.1 0, 7, .inl (nf bn)))] (some (.int (nI (ct (owS (wB ao at1 an bn n s w)).testBit 31)))) [(x 12, .inr (8, oS x fw ft mt)), (x 13, .inl (E.2.1 0, 7, .inl (nf (wB ao at1 an bn n s w)))), (x 7, .inr (6, oG x)), (x 9, .inl (E.2.1 0, 10, .inl (nf ao))), (x 10, .inl (E.2.1 0, 10, .inl (nf at1))), (x 11, .inl (E.2.1 0, 10, .inl (nf an))), (h 0, .inr (5, oH h da (nI n) de no pa)), (h 3, .inl (E.2.1 0, 7, .inl (nf bn)))] := by
  refine fn_I (by decide) (Nat.le_of_ble_eq_true rfl) rfl ?_
  intro K hC hR
  show G K E 10 [(x 12, .inr (8, oS x fw ft mt)), (x 13, .inl (E.2.1 0, 7, .inl (nf bh))), (x 7, .inr (6, oG x)), (x 9, .inl (E.2.1 0, 10, .inl (nf ao))), (x 10, .inl (E.2.1 0, 10, .inl (nf at1))), (x 11, .inl (E.2.1 0, 10, .inl (nf an))), (h 0, .inr (5, oH h da (nI n) de no pa)), (h 3, .inl (E.2.1 0, 7, .inl (nf bn)))] [(0, .ref (x 12)), (1, .ref (h 0)), (2, .ref (x 7)), (3, .int (nI s)), (4, .int (nI w))] 0 []
  refine g_aload_n hC dX8_ownersBehindWeeks_0 rfl 1 rfl ?_
  refine g_get hC 6 5 1 inX5 m1_41 dX8_ownersBehindWeeks_1 rfl rfl (by decide) rfl ?_
  refine g_if_gtN (tgt := 9) hC dX8_ownersBehindWeeks_4 (by decide) (by omega) (fun h_4 => ?_) (fun h_4 => ?_)
  · refine g_aload_n hC dX8_ownersBehindWeeks_9 rfl 1 rfl ?_
    refine g_get hC 6 5 4 inX5 m1_51 dX8_ownersBehindWeeks_10 rfl rfl (by decide) rfl ?_
    refine g_iconst (v := (nI 0)) hC dX8_ownersBehindWeeks_13 (by decide) ?_
    refine g_aload_n hC dX8_ownersBehindWeeks_14 rfl 0 rfl ?_
    refine g_get hC 0 8 0 inX8 m1_205 dX8_ownersBehindWeeks_15 rfl rfl (by decide) rfl ?_
    refine g_iconst (v := (nI 0)) hC dX8_ownersBehindWeeks_18 (by decide) ?_
    refine g_bipush (v := (nI 7)) hC dX8_ownersBehindWeeks_19 (by decide) ?_
    refine g_copy (t0 := 0) hC 7 1 [(x 12, .inr (8, oS x fw ft mt)), (x 13, .inl (E.2.1 0, 7, .inl (va_cpy (nf bn) (nf bh) 0 0 7))), (x 7, .inr (6, oG x)), (x 9, .inl (E.2.1 0, 10, .inl (nf ao))), (x 10, .inl (E.2.1 0, 10, .inl (nf at1))), (x 11, .inl (E.2.1 0, 10, .inl (nf an))), (h 0, .inr (5, oH h da (nI n) de no pa)), (h 3, .inl (E.2.1 0, 7, .inl (nf bn)))] m3_41 m2_151 m2_150 m1_19 dX8_ownersBehindWeeks_21 rfl rfl (by decide) (by decide) (by omega) (by omega) (by decide) (Nat.le_of_ble_eq_true rfl) rfl ?_
    refine g_ws (ws' := [(x 12, .inr (8, oS x fw ft mt)), (x 13, .inl (E.2.1 0, 7, .inl (nf (cpN bn bh 0 0 7)))), (x 7, .inr (6, oG x)), (x 9, .inl (E.2.1 0, 10, .inl (nf ao))), (x 10, .inl (E.2.1 0, 10, .inl (nf at1))), (x 11, .inl (E.2.1 0, 10, .inl (nf an))), (h 0, .inr (5, oH h da (nI n) de no pa)), (h 3, .inl (E.2.1 0, 7, .inl (nf bn)))]) (by rw [nf_c bn bh 0 0 7]) ?_
    refine g_arr 1 [(x 12, .inr (8, oS x fw ft mt)), (x 13, .inl (E.2.1 0, 7, .inl (nf bn))), (x 7, .inr (6, oG x)), (x 9, .inl (E.2.1 0, 10, .inl (nf ao))), (x 10, .inl (E.2.1 0, 10, .inl (nf at1))), (x 11, .inl (E.2.1 0, 10, .inl (nf an))), (h 0, .inr (5, oH h da (nI n) de no pa)), (h 3, .inl (E.2.1 0, 7, .inl (nf bn)))] (nf bn) rfl (cpN_all) rfl ?_
    refine g_iload_n hC dX8_ownersBehindWeeks_24 rfl 3 rfl ?_
    refine g_i2l hC dX8_ownersBehindWeeks_25 ?_
    refine g_val (v' := .long (lN (wX s 0))) (by rw [nI_l (by omega)]; rfl) ?_
    refine g_lstore hC [(5, .long (lN (wX s 0))), (0, .ref (x 12)), (1, .ref (h 0)), (2, .ref (x 7)), (3, .int (nI s)), (4, .int (nI w))] dX8_ownersBehindWeeks_26 (by decide) rfl ?_
    refine g_iconst (v := (nI 0)) hC dX8_ownersBehindWeeks_28 (by decide) ?_
    refine g_istore hC [(7, .int (nI 0)), (5, .long (lN (wX s 0))), (0, .ref (x 12)), (1, .ref (h 0)), (2, .ref (x 7)), (3, .int (nI s)), (4, .int (nI w))] dX8_ownersBehindWeeks_29 (by decide) rfl ?_
    have L_31 : ∀ (fu : Nat) (k : Nat) (hk : k ≤ w), w - k < fu → G K E 10 [(x 12, .inr (8, oS x fw ft mt)), (x 13, .inl (E.2.1 0, 7, .inl (nf (wB ao at1 an bn n s k)))), (x 7, .inr (6, oG x)), (x 9, .inl (E.2.1 0, 10, .inl (nf ao))), (x 10, .inl (E.2.1 0, 10, .inl (nf at1))), (x 11, .inl (E.2.1 0, 10, .inl (nf an))), (h 0, .inr (5, oH h da (nI n) de no pa)), (h 3, .inl (E.2.1 0, 7, .inl (nf bn)))] [(7, .int (nI k)), (5, .long (lN (wX s k))), (0, .ref (x 12)), (1, .ref (h 0)), (2, .ref (x 7)), (4, .int (nI w))] 31 [] := by
      intro fu
      induction fu with
      | zero => intro k hk hm_31; exact absurd hm_31 (Nat.not_lt_zero _)
      | succ fu ih_31 =>
        intro k hk hm_31
        have hx1 := wX_lt (s := s) (by omega) (k + 1)
        have hmn := Nat.mod_lt (wX s (k + 1) / 65536) hn0
        refine g_iload hC dX8_ownersBehindWeeks_31 0 rfl ?_
        refine g_iload hC dX8_ownersBehindWeeks_33 5 rfl ?_
        refine g_icmp_geN (tgt := 109) hC dX8_ownersBehindWeeks_35 (by decide) (by omega) (by omega) (fun h_35 => ?_) (fun h_35 => ?_)
        · refine g_aload_n hC dX8_ownersBehindWeeks_109 rfl 2 rfl ?_
          refine g_get hC 0 8 0 inX8 m1_205 dX8_ownersBehindWeeks_110 rfl rfl (by decide) rfl ?_
          refine g_callSN hC (f_X11_owners (kl K) E (x 13) (wB ao at1 an bn n s k)) wX11_owners (List.mem_of_getElem? (i := 21) rfl) dX8_ownersBehindWeeks_113 [1] [(x 12, .inr (8, oS x fw ft mt)), (x 13, .inl (E.2.1 0, 7, .inl (nf (wB ao at1 an bn n s k)))), (x 7, .inr (6, oG x)), (x 9, .inl (E.2.1 0, 10, .inl (nf ao))), (x 10, .inl (E.2.1 0, 10, .inl (nf at1))), (x 11, .inl (E.2.1 0, 10, .inl (nf an))), (h 0, .inr (5, oH h da (nI n) de no pa)), (h 3, .inl (E.2.1 0, 7, .inl (nf bn)))] (by decide) rfl (Nat.le_of_ble_eq_true rfl) rfl rfl rfl rfl rfl ?_
          refine g_val (v' := .int (nI (owS (wB ao at1 an bn n s k)))) (rfl) ?_
          refine g_callS hC (f_J6_bitCount_0f7a4 (kl K) E (owS (wB ao at1 an bn n s k)) (Nat.lt_trans (owS_128 _) (by decide))) wJ6_bitCount_0f7a4 m3_54 dX8_ownersBehindWeeks_116 [] [(x 12, .inr (8, oS x fw ft mt)), (x 13, .inl (E.2.1 0, 7, .inl (nf (wB ao at1 an bn n s k)))), (x 7, .inr (6, oG x)), (x 9, .inl (E.2.1 0, 10, .inl (nf ao))), (x 10, .inl (E.2.1 0, 10, .inl (nf at1))), (x 11, .inl (E.2.1 0, 10, .inl (nf an))), (h 0, .inr (5, oH h da (nI n) de no pa)), (h 3, .inl (E.2.1 0, 7, .inl (nf bn)))] (by decide) rfl (Nat.le_of_ble_eq_true rfl) rfl rfl rfl rfl rfl ?_
          exact g_val (by rw [show k = w by omega]) (g_ws (by rw [show k = w by omega]) (hR _ _ dX8_ownersBehindWeeks_119))
        · refine g_lload hC dX8_ownersBehindWeeks_38 1 rfl ?_
          refine g_ldc2 (v := 1103515245) hC dX8_ownersBehindWeeks_40 m3_156 ?_
          refine g_lmul hC dX8_ownersBehindWeeks_43 ?_
          refine g_ldc2 (v := 12345) hC dX8_ownersBehindWeeks_44 m3_157 ?_
          refine g_ladd hC dX8_ownersBehindWeeks_47 ?_
          refine g_ldc2 (v := 2147483648) hC dX8_ownersBehindWeeks_48 m3_158 ?_
          refine g_lrem hC dX8_ownersBehindWeeks_51 (by decide) ?_
          refine g_val (v' := .long (lN (wX s (k + 1)))) (by rw [wk_next (wX_lt (by omega) k)]; rfl) ?_
          refine g_lstore hC [(5, .long (lN (wX s (k + 1)))), (7, .int (nI k)), (0, .ref (x 12)), (1, .ref (h 0)), (2, .ref (x 7)), (4, .int (nI w))] dX8_ownersBehindWeeks_52 (by decide) rfl ?_
          refine g_lload hC dX8_ownersBehindWeeks_54 0 rfl ?_
          refine g_ldc2 (v := 65536) hC dX8_ownersBehindWeeks_56 m3_159 ?_
          refine g_ldiv hC dX8_ownersBehindWeeks_59 (by decide) ?_
          refine g_val (v' := .long (lN (wX s (k + 1) / 65536))) (by rw [← wk_div (c := 65536) hx1 (by decide) (by decide)]; rfl) ?_
          refine g_aload_n hC dX8_ownersBehindWeeks_60 rfl 3 rfl ?_
          refine g_get hC 6 5 1 inX5 m1_41 dX8_ownersBehindWeeks_61 rfl rfl (by decide) rfl ?_
          refine g_i2l hC dX8_ownersBehindWeeks_64 ?_
          refine g_val (v' := .long (lN n)) (by rw [nI_l (by omega)]) ?_
          refine g_lrem hC dX8_ownersBehindWeeks_65 (lN_ne0 (by omega) hn0) ?_
          refine g_val (v' := .long (lN (wX s (k + 1) / 65536 % n))) (by rw [wk_rem (by omega) hn0 (by omega)]) ?_
          refine g_l2i hC dX8_ownersBehindWeeks_66 ?_
          refine g_val (v' := .int (nI (wX s (k + 1) / 65536 % n))) (by rw [lN_i]) ?_
          refine g_istore hC [(8, .int (nI (wX s (k + 1) / 65536 % n))), (5, .long (lN (wX s (k + 1)))), (7, .int (nI k)), (0, .ref (x 12)), (1, .ref (h 0)), (2, .ref (x 7)), (4, .int (nI w))] dX8_ownersBehindWeeks_67 (by decide) rfl ?_
          refine g_lload hC dX8_ownersBehindWeeks_69 1 rfl ?_
          refine g_ldc2 (v := 1048576) hC dX8_ownersBehindWeeks_71 m3_160 ?_
          refine g_ldiv hC dX8_ownersBehindWeeks_74 (by decide) ?_
          refine g_val (v' := .long (lN (wX s (k + 1) / 1048576))) (by rw [← wk_div (c := 1048576) hx1 (by decide) (by decide)]; rfl) ?_
          refine g_ldc2 (v := 10) hC dX8_ownersBehindWeeks_75 m3_161 ?_
          refine g_lrem hC dX8_ownersBehindWeeks_78 (by decide) ?_
          refine g_val (v' := .long (lN (wX s (k + 1) / 1048576 % 10))) (by rw [← wk_rem (c := 10) (by omega) (by decide) (by decide)]; rfl) ?_
          refine g_l2i hC dX8_ownersBehindWeeks_79 ?_
          refine g_val (v' := .int (nI (wX s (k + 1) / 1048576 % 10))) (by rw [lN_i]) ?_
          refine g_istore hC [(9, .int (nI (wX s (k + 1) / 1048576 % 10))), (8, .int (nI (wX s (k + 1) / 65536 % n))), (5, .long (lN (wX s (k + 1)))), (7, .int (nI k)), (0, .ref (x 12)), (1, .ref (h 0)), (2, .ref (x 7)), (4, .int (nI w))] dX8_ownersBehindWeeks_80 (by decide) rfl ?_
          refine g_aload_n hC dX8_ownersBehindWeeks_82 rfl 4 rfl ?_
          refine g_get hC 0 8 0 inX8 m1_205 dX8_ownersBehindWeeks_83 rfl rfl (by decide) rfl ?_
          refine g_iload hC dX8_ownersBehindWeeks_86 1 rfl ?_
          refine g_aload_n hC dX8_ownersBehindWeeks_88 rfl 6 rfl ?_
          refine g_aload_n hC dX8_ownersBehindWeeks_89 rfl 4 rfl ?_
          refine g_get hC 0 8 0 inX8 m1_205 dX8_ownersBehindWeeks_90 rfl rfl (by decide) rfl ?_
          refine g_iload hC dX8_ownersBehindWeeks_93 1 rfl ?_
          refine g_iload hC dX8_ownersBehindWeeks_95 0 rfl ?_
          refine g_callV hC (f_X6_turners (kl K) E x ao at1 an (x 13) (wB ao at1 an bn n s k) (wX s (k + 1) / 65536 % n) (wX s (k + 1) / 1048576 % 10) (by omega) (by omega) (Nat.lt_trans (wB_128 hh hb k _ (by omega)) (by decide)) (Nat.lt_trans (hh _ (by omega)).2.1 (by decide))) wX6_turners m3_35 dX8_ownersBehindWeeks_97 [2, 3, 4, 5, 1] [(x 12, .inr (8, oS x fw ft mt)), (x 13, .inl (E.2.1 0, 7, .inl (nf (wB ao at1 an bn n s k)))), (x 7, .inr (6, oG x)), (x 9, .inl (E.2.1 0, 10, .inl (nf ao))), (x 10, .inl (E.2.1 0, 10, .inl (nf at1))), (x 11, .inl (E.2.1 0, 10, .inl (nf an))), (h 0, .inr (5, oH h da (nI n) de no pa)), (h 3, .inl (E.2.1 0, 7, .inl (nf bn)))] 2 6 rfl rfl (by decide) rfl (Nat.le_of_ble_eq_true rfl) rfl rfl rfl rfl rfl ?_
          refine g_callSN hC (f_X11_settle (kl K) E (x 13) (wB ao at1 an bn n s k) (wX s (k + 1) / 65536 % n) (htr ao at1 an (wB ao at1 an bn n s k) (wX s (k + 1) / 65536 % n) (wX s (k + 1) / 1048576 % 10)) (by omega) (Nat.lt_trans (htr_128 (hh _ (by omega))) (by decide)) (fun j hj => Nat.lt_trans (wB_128 hh hb k j hj) (by decide))) wX11_settle (List.mem_of_getElem? (i := 20) rfl) dX8_ownersBehindWeeks_100 [1] [(x 12, .inr (8, oS x fw ft mt)), (x 13, .inl (E.2.1 0, 7, .inl (nf (stl (wB ao at1 an bn n s k) (wX s (k + 1) / 65536 % n) (htr ao at1 an (wB ao at1 an bn n s k) (wX s (k + 1) / 65536 % n) (wX s (k + 1) / 1048576 % 10)))))), (x 7, .inr (6, oG x)), (x 9, .inl (E.2.1 0, 10, .inl (nf ao))), (x 10, .inl (E.2.1 0, 10, .inl (nf at1))), (x 11, .inl (E.2.1 0, 10, .inl (nf an))), (h 0, .inr (5, oH h da (nI n) de no pa)), (h 3, .inl (E.2.1 0, 7, .inl (nf bn)))] (by decide) rfl (Nat.le_of_ble_eq_true rfl) rfl rfl rfl rfl rfl ?_
          refine g_iincN hC (q := 3) 1 [(7, .int (nI (k + 1))), (9, .int (nI (wX s (k + 1) / 1048576 % 10))), (8, .int (nI (wX s (k + 1) / 65536 % n))), (5, .long (lN (wX s (k + 1)))), (0, .ref (x 12)), (1, .ref (h 0)), (2, .ref (x 7)), (4, .int (nI w))] dX8_ownersBehindWeeks_103 rfl rfl (by decide) rfl ?_
          refine g_goto (tgt := 31) hC dX8_ownersBehindWeeks_106 (by decide) ?_
          refine g_lv (lv' := [(7, .int (nI (k + 1))), (5, .long (lN (wX s (k + 1)))), (0, .ref (x 12)), (1, .ref (h 0)), (2, .ref (x 7)), (4, .int (nI w))]) [0, 3, 4, 5, 6, 7] rfl ?_
          refine g_ws (ws' := [(x 12, .inr (8, oS x fw ft mt)), (x 13, .inl (E.2.1 0, 7, .inl (nf (wB ao at1 an bn n s (k + 1))))), (x 7, .inr (6, oG x)), (x 9, .inl (E.2.1 0, 10, .inl (nf ao))), (x 10, .inl (E.2.1 0, 10, .inl (nf at1))), (x 11, .inl (E.2.1 0, 10, .inl (nf an))), (h 0, .inr (5, oH h da (nI n) de no pa)), (h 3, .inl (E.2.1 0, 7, .inl (nf bn)))]) (rfl) ?_
          exact ih_31 (k + 1) (by omega) (by omega)
    refine g_lv (lv' := [(7, .int (nI 0)), (5, .long (lN (wX s 0))), (0, .ref (x 12)), (1, .ref (h 0)), (2, .ref (x 7)), (4, .int (nI w))]) [0, 1, 2, 3, 4, 6] rfl ?_
    refine g_ws (ws' := [(x 12, .inr (8, oS x fw ft mt)), (x 13, .inl (E.2.1 0, 7, .inl (nf (wB ao at1 an bn n s 0)))), (x 7, .inr (6, oG x)), (x 9, .inl (E.2.1 0, 10, .inl (nf ao))), (x 10, .inl (E.2.1 0, 10, .inl (nf at1))), (x 11, .inl (E.2.1 0, 10, .inl (nf an))), (h 0, .inr (5, oH h da (nI n) de no pa)), (h 3, .inl (E.2.1 0, 7, .inl (nf bn)))]) (rfl) ?_
    exact L_31 ((w - 0) + 1) 0 (by omega) (Nat.lt_succ_self _)
  · omega
