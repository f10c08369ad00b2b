theorem bits_dec {x j fu : Nat} (h : 0 < x / 2 ^ j) (hm : x / 2 ^ j < fu + 1) : x / 2 ^ (j + 1) < fu := by
  have e : x / 2 ^ (j + 1) = x / 2 ^ j / 2 := by rw [Nat.pow_succ, Nat.div_div_eq_div_mul]
  omega
theorem div0_lt {x j : Nat} (h : x / 2 ^ j ≤ 0) : x < 2 ^ j := by
  rcases Nat.lt_or_ge x (2 ^ j) with h1 | h1
  · exact h1
  · have := Nat.div_pos h1 (Nat.two_pow_pos j)
    omega
theorem bits_j {x j : Nat} (hx : x < 2147483648) (h : 0 < x / 2 ^ j) : j + 1 ≤ 31 := by
  rcases Nat.lt_or_ge j 31 with h1 | h1
  · exact h1
  · have h2 : x < 2 ^ j := Nat.lt_of_lt_of_le hx (Nat.pow_le_pow_right (n := 2) (by decide) h1)
    rw [Nat.div_eq_of_lt h2] at h
    omega
theorem shr_1 {x j : Nat} (h : x / 2 ^ j < 2147483648) : nI (x / 2 ^ j) >>> (nI 1 &&& 31) = nI (x / 2 ^ (j + 1)) := by
  rw [shr_N h (by decide), Nat.pow_one, Nat.div_div_eq_div_mul, Nat.pow_succ]
theorem bits_step (x j : Nat) : ct x.testBit (j + 1) = ct x.testBit j + x / 2 ^ j % 2 := by
  rw [ct, Nat.testBit_eq_decide_div_mod_eq]
  have h : x / 2 ^ j % 2 = 0 ∨ x / 2 ^ j % 2 = 1 := by omega
  rcases h with h | h <;> rw [h] <;> rfl
theorem inl_10 (x : Int32) : inB x 10 = (decide ((0 : Int64) ≤ x.toInt64) && decide (x.toInt64 ≤ 9)) := by
  simp only [inB, fa_le64, Int32.toInt_toInt64]
  have h9 : (9 : Int64).toInt = 9 := by decide
  have h0 : (0 : Int64).toInt = 0 := by decide
  rw [h9, h0]
  by_cases h1 : 0 ≤ x.toInt <;> by_cases h2 : x.toInt < 10 <;> simp [h1, h2] <;> omega
theorem inl_n {n : Nat} (hn : n ≤ 7) (x : Int32) : inB x n = (decide ((0 : Int64) ≤ x.toInt64) && decide (x.toInt64 ≤ (nI n - nI 1).toInt64)) := by
  simp only [inB, fa_le64, Int32.toInt_toInt64, pk_sub_toInt (show n < 2 ^ 30 by omega) (show 1 < 2 ^ 30 by decide)]
  have h0 : (0 : Int64).toInt = 0 := by decide
  rw [h0]
  by_cases h1 : 0 ≤ x.toInt <;> by_cases h2 : x.toInt < n <;> simp [h1, h2] <;> omega
set_option maxHeartbeats 4000000 in
set_option maxRecDepth 100000 in
theorem f_X12_in (l : Launch) (E : Ew) (v : Int64) (lo : Int64) (hi : Int64)  : Fn l E 0 yX12_in cX12_in 6 (some .boolean) [.long v, .long lo, .long hi] [] (some (.int (bI (decide (lo ≤ v) && decide (v ≤ hi))))) [] := by
  refine fn_Z (by decide) (Nat.le_of_ble_eq_true rfl) rfl (nar_bI _) ?_
  intro K hC hR
  show G K E 6 [] [(0, .long v), (2, .long lo), (4, .long hi)] 0 []
  refine g_lload_n hC dX12_in_0 rfl 0 rfl ?_
  refine g_lload_n hC dX12_in_1 rfl 1 rfl ?_
  refine g_lcmp hC dX12_in_2 ?_
  refine g_if_lt (tgt := 17) hC dX12_in_3 (by decide) (fun h_3 => ?_) (fun h_3 => ?_)
  · refine g_iconst (v := (nI 0)) hC dX12_in_17 (by decide) ?_
    exact g_val (by first | (rw [lg_cmp_lt] at h_3; rw [lg_cmp_gt] at h_10; have h1 : lo ≤ v := Int64.not_lt.mp h_3; have h2 : v ≤ hi := Int64.not_lt.mp h_10; simp [h1, h2]; rfl) | (rw [lg_cmp_lt] at h_3; rw [lg_cmp_gt] at h_10; have h2 : ¬ v ≤ hi := Int64.not_le.mpr h_10; simp [h2]; rfl) | (rw [lg_cmp_lt] at h_3; have h2 : ¬ lo ≤ v := Int64.not_le.mpr h_3; simp [h2]; rfl)) (g_ws (rfl) (hR _ _ dX12_in_18))
  · refine g_lload_n hC dX12_in_6 rfl 0 rfl ?_
    refine g_lload hC dX12_in_7 2 rfl ?_
    refine g_lcmp hC dX12_in_9 ?_
    refine g_if_gt (tgt := 17) hC dX12_in_10 (by decide) (fun h_10 => ?_) (fun h_10 => ?_)
    · refine g_iconst (v := (nI 0)) hC dX12_in_17 (by decide) ?_
      exact g_val (by first | (rw [lg_cmp_lt] at h_3; rw [lg_cmp_gt] at h_10; have h1 : lo ≤ v := Int64.not_lt.mp h_3; have h2 : v ≤ hi := Int64.not_lt.mp h_10; simp [h1, h2]; rfl) | (rw [lg_cmp_lt] at h_3; rw [lg_cmp_gt] at h_10; have h2 : ¬ v ≤ hi := Int64.not_le.mpr h_10; simp [h2]; rfl) | (rw [lg_cmp_lt] at h_3; have h2 : ¬ lo ≤ v := Int64.not_le.mpr h_3; simp [h2]; rfl)) (g_ws (rfl) (hR _ _ dX12_in_18))
    · refine g_iconst (v := (nI 1)) hC dX12_in_13 (by decide) ?_
      refine g_goto (tgt := 18) hC dX12_in_14 (by decide) ?_
      exact g_val (by first | (rw [lg_cmp_lt] at h_3; rw [lg_cmp_gt] at h_10; have h1 : lo ≤ v := Int64.not_lt.mp h_3; have h2 : v ≤ hi := Int64.not_lt.mp h_10; simp [h1, h2]; rfl) | (rw [lg_cmp_lt] at h_3; rw [lg_cmp_gt] at h_10; have h2 : ¬ v ≤ hi := Int64.not_le.mpr h_10; simp [h2]; rfl) | (rw [lg_cmp_lt] at h_3; have h2 : ¬ lo ≤ v := Int64.not_le.mpr h_3; simp [h2]; rfl)) (g_ws (rfl) (hR _ _ dX12_in_18))
set_option maxHeartbeats 4000000 in
set_option maxRecDepth 100000 in
theorem f_X12_no (l : Launch) (E : Ew) (q : Nat → Nat) (ab : Int64) (be : Int64) (fe : Int32) (fc : Int32) (mo : Int32) (bl : Int32) (ta : Int32) (tl : Int32) (tkn : Int32) (va : Int32) (r : Nat → Int32)  : Fn l E 0 yX12_no cX12_no 1 (some .int) [.ref (q 0)] [(q 0, .inr (12, oM q ab be fe fc mo bl ta tl tkn va)), (q 4, .inl (E.2.1 0, 3, .inl r))] (some (.int (-3))) [(q 0, .inr (12, oM q ab be fe fc mo bl ta tl tkn va)), (q 4, .inl (E.2.1 0, 3, .inl (upd r 1 (r 1 + nI 1))))] := by
  refine fn_I (by decide) (Nat.le_of_ble_eq_true rfl) rfl ?_
  intro K hC hR
  show G K E 1 [(q 0, .inr (12, oM q ab be fe fc mo bl ta tl tkn va)), (q 4, .inl (E.2.1 0, 3, .inl r))] [(0, .ref (q 0))] 0 []
  refine g_aload_n hC dX12_no_0 rfl 0 rfl ?_
  refine g_get hC 0 12 3 inX12 m3_211 dX12_no_1 rfl rfl (by decide) rfl ?_
  refine g_iconst (v := (nI 1)) hC dX12_no_4 (by decide) ?_
  refine g_dup2 hC dX12_no_5 rfl rfl ?_
  refine g_ialdN hC 1 dX12_no_6 rfl (by decide) (by omega) ?_
  refine g_iconst (v := (nI 1)) hC dX12_no_7 (by decide) ?_
  refine g_iadd hC dX12_no_8 ?_
  refine g_iastN hC 1 [(q 0, .inr (12, oM q ab be fe fc mo bl ta tl tkn va)), (q 4, .inl (E.2.1 0, 3, .inl (upd r 1 (r 1 + (nI 1)))))] dX12_no_9 rfl (by decide) (by omega) rfl ?_
  refine g_bipush (v := (-3)) hC dX12_no_10 (by decide) ?_
  exact g_val (rfl) (g_ws (rfl) (hR _ _ dX12_no_12))
set_option maxHeartbeats 4000000 in
set_option maxRecDepth 100000 in
theorem f_X12_full (l : Launch) (E : Ew) (q : Nat → Nat) (ab : Int64) (be : Int64) (fe : Int32) (fc : Int32) (mo : Int32) (bl : Int32) (ta : Int32) (tl : Int32) (tkn : Int32) (va : Int32) (r : Nat → Int32)  : Fn l E 0 yX12_full cX12_full 1 (some .int) [.ref (q 0)] [(q 0, .inr (12, oM q ab be fe fc mo bl ta tl tkn va)), (q 4, .inl (E.2.1 0, 3, .inl r))] (some (.int (-4))) [(q 0, .inr (12, oM q ab be fe fc mo bl ta tl tkn va)), (q 4, .inl (E.2.1 0, 3, .inl (upd r 2 (r 2 + nI 1))))] := by
  refine fn_I (by decide) (Nat.le_of_ble_eq_true rfl) rfl ?_
  intro K hC hR
  show G K E 1 [(q 0, .inr (12, oM q ab be fe fc mo bl ta tl tkn va)), (q 4, .inl (E.2.1 0, 3, .inl r))] [(0, .ref (q 0))] 0 []
  refine g_aload_n hC dX12_full_0 rfl 0 rfl ?_
  refine g_get hC 0 12 3 inX12 m3_211 dX12_full_1 rfl rfl (by decide) rfl ?_
  refine g_iconst (v := (nI 2)) hC dX12_full_4 (by decide) ?_
  refine g_dup2 hC dX12_full_5 rfl rfl ?_
  refine g_ialdN hC 1 dX12_full_6 rfl (by decide) (by omega) ?_
  refine g_iconst (v := (nI 1)) hC dX12_full_7 (by decide) ?_
  refine g_iadd hC dX12_full_8 ?_
  refine g_iastN hC 1 [(q 0, .inr (12, oM q ab be fe fc mo bl ta tl tkn va)), (q 4, .inl (E.2.1 0, 3, .inl (upd r 2 (r 2 + (nI 1)))))] dX12_full_9 rfl (by decide) (by omega) rfl ?_
  refine g_bipush (v := (-4)) hC dX12_full_10 (by decide) ?_
  exact g_val (rfl) (g_ws (rfl) (hR _ _ dX12_full_12))
set_option maxHeartbeats 4000000 in
set_option maxRecDepth 100000 in
theorem f_X12_bad (l : Launch) (E : Ew) (q : Nat → Nat) (ab : Int64) (be : Int64) (fe : Int32) (fc : Int32) (mo : Int32) (bl : Int32) (ta : Int32) (tl : Int32) (tkn : Int32) (va : Int32) (r : Nat → Int32) (t : Int32)  : Fn l E 0 yX12_bad cX12_bad 2 (some .int) [.ref (q 0), .int t] [(q 0, .inr (12, oM q ab be fe fc mo bl ta tl tkn va)), (q 4, .inl (E.2.1 0, 3, .inl r))] (some (.int t)) [(q 0, .inr (12, oM q ab be fe fc mo bl ta tl tkn va)), (q 4, .inl (E.2.1 0, 3, .inl (upd r 0 (r 0 + nI 1))))] := by
  refine fn_I (by decide) (Nat.le_of_ble_eq_true rfl) rfl ?_
  intro K hC hR
  show G K E 2 [(q 0, .inr (12, oM q ab be fe fc mo bl ta tl tkn va)), (q 4, .inl (E.2.1 0, 3, .inl r))] [(0, .ref (q 0)), (1, .int t)] 0 []
  refine g_aload_n hC dX12_bad_0 rfl 0 rfl ?_
  refine g_get hC 0 12 3 inX12 m3_211 dX12_bad_1 rfl rfl (by decide) rfl ?_
  refine g_iconst (v := (nI 0)) hC dX12_bad_4 (by decide) ?_
  refine g_dup2 hC dX12_bad_5 rfl rfl ?_
  refine g_ialdN hC 1 dX12_bad_6 rfl (by decide) (by omega) ?_
  refine g_iconst (v := (nI 1)) hC dX12_bad_7 (by decide) ?_
  refine g_iadd hC dX12_bad_8 ?_
  refine g_iastN hC 1 [(q 0, .inr (12, oM q ab be fe fc mo bl ta tl tkn va)), (q 4, .inl (E.2.1 0, 3, .inl (upd r 0 (r 0 + (nI 1)))))] dX12_bad_9 rfl (by decide) (by omega) rfl ?_
  refine g_iload_n hC dX12_bad_10 rfl 1 rfl ?_
  exact g_val (rfl) (g_ws (rfl) (hR _ _ dX12_bad_11))
set_option maxHeartbeats 4000000 in
set_option maxRecDepth 100000 in
theorem f_X12_many (l : Launch) (E : Ew) (q : Nat → Nat) (ab : Int64) (be : Int64) (fe : Int32) (fc : Int32) (mo : Int32) (bl : Int32) (ta : Int32) (tl : Int32) (tkn : Int32) (va : Int32) (a : Nat → Int32)  : Fn l E 0 yX12_many cX12_many 1 (some .int) [.ref (q 0)] [(q 0, .inr (12, oM q ab be fe fc mo bl ta tl tkn va)), (q 1, .inl (E.2.1 0, 188, .inl a))] (some (.int (a 0))) [(q 0, .inr (12, oM q ab be fe fc mo bl ta tl tkn va)), (q 1, .inl (E.2.1 0, 188, .inl a))] := by
  refine fn_I (by decide) (Nat.le_of_ble_eq_true rfl) rfl ?_
  intro K hC hR
  show G K E 1 [(q 0, .inr (12, oM q ab be fe fc mo bl ta tl tkn va)), (q 1, .inl (E.2.1 0, 188, .inl a))] [(0, .ref (q 0))] 0 []
  refine g_aload_n hC dX12_many_0 rfl 0 rfl ?_
  refine g_get hC 0 12 0 inX12 m3_208 dX12_many_1 rfl rfl (by decide) rfl ?_
  refine g_iconst (v := (nI 0)) hC dX12_many_4 (by decide) ?_
  refine g_ialdN hC 1 dX12_many_5 rfl (by decide) (by omega) ?_
  exact g_val (rfl) (g_ws (rfl) (hR _ _ dX12_many_6))
set_option maxHeartbeats 4000000 in
set_option maxRecDepth 100000 in
theorem f_X12_bits (l : Launch) (E : Ew) (x : Nat) (hx : x < 2147483648) : Fn l E 0 yX12_bits cX12_bits 3 (some .int) [.int (nI x)] [] (some (.int (nI (ct x.testBit 31)))) [] := by
  refine fn_I (by decide) (Nat.le_of_ble_eq_true rfl) rfl ?_
  intro K hC hR
  show G K E 3 [] [(0, .int (nI x))] 0 []
  refine g_iconst (v := (nI 0)) hC dX12_bits_0 (by decide) ?_
  refine g_istore_n hC [(1, .int (nI 0)), (0, .int (nI x))] dX12_bits_1 rfl (by decide) rfl ?_
  refine g_iload_n hC dX12_bits_2 rfl 1 rfl ?_
  refine g_istore_n hC [(2, .int (nI x)), (1, .int (nI 0)), (0, .int (nI x))] dX12_bits_3 rfl (by decide) rfl ?_
  have L_4 : ∀ (fu : Nat) (j : Nat) (hj : j ≤ 31), x / 2 ^ j < fu → G K E 3 [] [(2, .int (nI (x / 2 ^ j))), (1, .int (nI (ct x.testBit j)))] 4 [] := by
    intro fu
    induction fu with
    | zero => intro j hj hm_4; exact absurd hm_4 (Nat.not_lt_zero _)
    | succ fu ih_4 =>
      intro j hj hm_4
      have hq : x / 2 ^ j < 2147483648 := Nat.lt_of_le_of_lt (Nat.div_le_self _ _) hx
      refine g_iload_n hC dX12_bits_4 rfl 0 rfl ?_
      refine g_if_leN (tgt := 21) hC dX12_bits_5 (by decide) (by omega) (fun h_5 => ?_) (fun h_5 => ?_)
      · refine g_iload_n hC dX12_bits_21 rfl 1 rfl ?_
        exact g_val (by rw [ct_tb (div0_lt h_5) hj]) (g_ws (rfl) (hR _ _ dX12_bits_22))
      · refine g_iload_n hC dX12_bits_8 rfl 1 rfl ?_
        refine g_iload_n hC dX12_bits_9 rfl 0 rfl ?_
        refine g_iconst (v := (nI 1)) hC dX12_bits_10 (by decide) ?_
        refine g_iand hC dX12_bits_11 ?_
        refine g_val (v' := .int (nI (x / 2 ^ j % 2))) (by rw [and1_N]) ?_
        refine g_iaddN hC dX12_bits_12 ?_
        refine g_istore_n hC [(1, .int (nI (ct x.testBit j + x / 2 ^ j % 2))), (2, .int (nI (x / 2 ^ j)))] dX12_bits_13 rfl (by decide) rfl ?_
        refine g_iload_n hC dX12_bits_14 rfl 1 rfl ?_
        refine g_iconst (v := (nI 1)) hC dX12_bits_15 (by decide) ?_
        refine g_ishr hC dX12_bits_16 ?_
        refine g_val (v' := .int (nI (x / 2 ^ (j + 1)))) (by rw [shr_1 hq]) ?_
        refine g_istore_n hC [(2, .int (nI (x / 2 ^ (j + 1)))), (1, .int (nI (ct x.testBit j + x / 2 ^ j % 2)))] dX12_bits_17 rfl (by decide) rfl ?_
        refine g_goto (tgt := 4) hC dX12_bits_18 (by decide) ?_
        refine g_lv (lv' := [(2, .int (nI (x / 2 ^ (j + 1)))), (1, .int (nI (ct x.testBit j + x / 2 ^ j % 2)))]) [0, 1] rfl ?_
        refine g_lve (lv' := [(2, .int (nI (x / 2 ^ (j + 1)))), (1, .int (nI (ct x.testBit (j + 1))))]) (by rw [bits_step]) ?_
        exact ih_4 (j + 1) (bits_j hx h_5) (bits_dec h_5 hm_4)
  refine g_lv (lv' := [(2, .int (nI x)), (1, .int (nI 0))]) [0, 1] rfl ?_
  refine g_lve (lv' := [(2, .int (nI (x / 2 ^ 0))), (1, .int (nI (ct x.testBit 0)))]) (by rw [Nat.pow_zero, Nat.div_one]; rfl) ?_
  exact L_4 ((x / 2 ^ 0) + 1) 0 (by omega) (Nat.lt_succ_self _)
set_option maxHeartbeats 4000000 in
set_option maxRecDepth 100000 in
theorem f_X12_has (l : Launch) (E : Ew) (x : Nat) (k : Nat) (hx : x < 2147483648) (hk : k < 31) : Fn l E 0 yX12_has cX12_has 2 (some .boolean) [.int (nI x), .int (nI k)] [] (some (.int (bI (x.testBit k)))) [] := by
  refine fn_Z (by decide) (Nat.le_of_ble_eq_true rfl) rfl (nar_bI _) ?_
  intro K hC hR
  show G K E 2 [] [(0, .int (nI x)), (1, .int (nI k))] 0 []
  refine g_iload_n hC dX12_has_0 rfl 0 rfl ?_
  refine g_iload_n hC dX12_has_1 rfl 1 rfl ?_
  refine g_ishr hC dX12_has_2 ?_
  refine g_iconst (v := (nI 1)) hC dX12_has_3 (by decide) ?_
  refine g_iand hC dX12_has_4 ?_
  refine g_val (v' := .int (bI (x.testBit k))) (by rw [bit_N hx hk]) ?_
  refine g_iconst (v := (nI 1)) hC dX12_has_5 (by decide) ?_
  refine g_icmp_ne (tgt := 13) hC dX12_has_6 (by decide) (fun h_6 => ?_) (fun h_6 => ?_)
  · refine g_iconst (v := (nI 0)) hC dX12_has_13 (by decide) ?_
    exact g_val (by first | exact (bI_1e ((bI_N1 _).mp h_6)) | exact bI_0e (by cases hb : x.testBit k; rfl; exact absurd (by rw [hb]; rfl) h_6)) (g_ws (rfl) (hR _ _ dX12_has_14))
  · refine g_iconst (v := (nI 1)) hC dX12_has_9 (by decide) ?_
    refine g_goto (tgt := 14) hC dX12_has_10 (by decide) ?_
    exact g_val (by first | exact (bI_1e ((bI_N1 _).mp h_6)) | exact bI_0e (by cases hb : x.testBit k; rfl; exact absurd (by rw [hb]; rfl) h_6)) (g_ws (rfl) (hR _ _ dX12_has_14))
set_option maxHeartbeats 4000000 in
set_option maxRecDepth 100000 in
theorem f_X12_isPlace (l : Launch) (E : Ew) (x : Int32)  : Fn l E 1 yX12_isPlace cX12_isPlace 1 (some .boolean) [.int x] [] (some (.int (bI (inB x 10)))) [] := by
  refine fn_Z (by decide) (Nat.le_of_ble_eq_true rfl) rfl (nar_bI _) ?_
  intro K hC hR
  show G K E 1 [] [(0, .int x)] 0 []
  refine g_iload_n hC dX12_isPlace_0 rfl 0 rfl ?_
  refine g_i2l hC dX12_isPlace_1 ?_
  refine g_lconst (v := 0) hC dX12_isPlace_2 (by decide) ?_
  refine g_ldc2 (v := 9) hC dX12_isPlace_3 m4_50 ?_
  refine g_callS hC (f_X12_in (kl K) E x.toInt64 0 9) wX12_in m4_31 dX12_isPlace_6 [] [] (by decide) rfl (Nat.le_of_ble_eq_true rfl) rfl rfl rfl rfl rfl ?_
  exact g_val (by rw [inl_10]) (g_ws (rfl) (hR _ _ dX12_isPlace_9))
set_option maxHeartbeats 4000000 in
set_option maxRecDepth 100000 in
theorem f_X12_isOne (l : Launch) (E : Ew) (q : Nat → Nat) (ab : Int64) (be : Int64) (fe : Int32) (fc : Int32) (mo : Int32) (bl : Int32) (ta : Int32) (tl : Int32) (tkn : Int32) (va : Int32) (a : Nat → Int32) (n : Nat) (p : Int32) (hn : a 0 = nI n) (hn7 : n ≤ 7) : Fn l E 1 yX12_isOne cX12_isOne 2 (some .boolean) [.ref (q 0), .int p] [(q 0, .inr (12, oM q ab be fe fc mo bl ta tl tkn va)), (q 1, .inl (E.2.1 0, 188, .inl a))] (some (.int (bI (inB p n)))) [(q 0, .inr (12, oM q ab be fe fc mo bl ta tl tkn va)), (q 1, .inl (E.2.1 0, 188, .inl a))] := by
  refine fn_Z (by decide) (Nat.le_of_ble_eq_true rfl) rfl (nar_bI _) ?_
  intro K hC hR
  show G K E 2 [(q 0, .inr (12, oM q ab be fe fc mo bl ta tl tkn va)), (q 1, .inl (E.2.1 0, 188, .inl a))] [(0, .ref (q 0)), (1, .int p)] 0 []
  refine g_iload_n hC dX12_isOne_0 rfl 1 rfl ?_
  refine g_i2l hC dX12_isOne_1 ?_
  refine g_lconst (v := 0) hC dX12_isOne_2 (by decide) ?_
  refine g_aload_n hC dX12_isOne_3 rfl 0 rfl ?_
  refine g_callV hC (f_X12_many (kl K) E q ab be fe fc mo bl ta tl tkn va a) wX12_many m4_38 dX12_isOne_4 [0, 1] [(q 0, .inr (12, oM q ab be fe fc mo bl ta tl tkn va)), (q 1, .inl (E.2.1 0, 188, .inl a))] 0 12 rfl rfl (by decide) rfl (Nat.le_of_ble_eq_true rfl) rfl rfl rfl rfl rfl ?_
  refine g_val (v' := .int (nI n)) (by rw [hn]) ?_
  refine g_iconst (v := (nI 1)) hC dX12_isOne_7 (by decide) ?_
  refine g_isub hC dX12_isOne_8 ?_
  refine g_i2l hC dX12_isOne_9 ?_
  refine g_callS hC (f_X12_in (kl K) E p.toInt64 0 (((nI n) - (nI 1)).toInt64)) wX12_in m4_31 dX12_isOne_10 [] [(q 0, .inr (12, oM q ab be fe fc mo bl ta tl tkn va)), (q 1, .inl (E.2.1 0, 188, .inl a))] (by decide) rfl (Nat.le_of_ble_eq_true rfl) rfl rfl rfl rfl rfl ?_
  exact g_val (by rw [inl_n hn7]) (g_ws (rfl) (hR _ _ dX12_isOne_13))
set_option maxHeartbeats 4000000 in
set_option maxRecDepth 100000 in
theorem f_X12_farOf (l : Launch) (E : Ew) (a : Nat) (b : Nat) (ha : a < 2147483648) (hb : b < 2147483648) : Fn l E 0 yX12_farOf cX12_farOf 2 (some .int) [.int (nI a), .int (nI b)] [] (some (.int (nI (fr a b)))) [] := by
  refine fn_I (by decide) (Nat.le_of_ble_eq_true rfl) rfl ?_
  intro K hC hR
  show G K E 2 [] [(0, .int (nI a)), (1, .int (nI b))] 0 []
  refine g_iload_n hC dX12_farOf_0 rfl 0 rfl ?_
  refine g_iload_n hC dX12_farOf_1 rfl 1 rfl ?_
  refine g_icmp_geN (tgt := 11) hC dX12_farOf_2 (by decide) (by omega) (by omega) (fun h_2 => ?_) (fun h_2 => ?_)
  · refine g_iload_n hC dX12_farOf_11 rfl 0 rfl ?_
    refine g_iload_n hC dX12_farOf_12 rfl 1 rfl ?_
    refine g_isubN hC dX12_farOf_13 (by omega) ?_
    exact g_val (by first | (rw [fr, if_pos h_2]) | (rw [fr, if_neg (by omega)])) (g_ws (rfl) (hR _ _ dX12_farOf_14))
  · refine g_iload_n hC dX12_farOf_5 rfl 1 rfl ?_
    refine g_iload_n hC dX12_farOf_6 rfl 0 rfl ?_
    refine g_isubN hC dX12_farOf_7 (by omega) ?_
    refine g_goto (tgt := 14) hC dX12_farOf_8 (by decide) ?_
    exact g_val (by first | (rw [fr, if_pos h_2]) | (rw [fr, if_neg (by omega)])) (g_ws (rfl) (hR _ _ dX12_farOf_14))
