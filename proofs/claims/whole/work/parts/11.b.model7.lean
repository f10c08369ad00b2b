theorem so_4 {c : Nat} (h1 : ¬ so c = 1) (h2 : ¬ so c = 2) (h3 : c ≠ 59) : 4 = so c := by
  unfold so at *
  split at h1
  · exact absurd rfl h1
  · rename_i q
    rw [if_neg q] at h2
    rw [if_neg q]
    split at h2
    · exact absurd rfl h2
    · rename_i q2
      rw [if_neg q2, if_neg h3]
theorem lk_tl {T : Nat → Nat} {L i e : Nat} (h : tE T L i = tA T L i + e) : tE T L i - tA T L i = e := by omega
theorem lk_tk4 {T : Nat → Nat} {L i e s0 : Nat} (hlt : tA T L i < L) (hs : s0 = so (T (tA T L i))) (h : tE T L i = tA T L i + e) (h2 : s0 = 2) (h3 : 2 < e) : tK T L i = 4 := by
  unfold tK tY
  rw [if_pos hlt, ← hs, if_pos ⟨h2, by omega⟩]
theorem lk_tkO {T : Nat → Nat} {L i e s0 : Nat} (hlt : tA T L i < L) (hs : s0 = so (T (tA T L i))) (h : tE T L i = tA T L i + e) (h2 : s0 ≠ 2 ∨ e ≤ 2) : tK T L i = s0 := by
  unfold tK tY
  rw [if_pos hlt, ← hs, if_neg (by omega)]
theorem lk_tv {T : Nat → Nat} {L i e s0 k : Nat} (hlt : tA T L i < L) (hs : s0 = so (T (tA T L i))) (h : tE T L i = tA T L i + e) (h2 : (s0 = 2 ∧ ((e = 1 ∧ k = 1) ∨ (2 ≤ e ∧ k = 2))) ∨ (s0 ≠ 2 ∧ k = 0)) : tV T L i = dv T (tA T L i) k := by
  unfold tV tY
  rw [if_pos hlt, ← hs, show tE T L i - tA T L i = e by omega]
  rcases h2 with ⟨h2, ⟨q, rfl⟩ | ⟨q, rfl⟩⟩ | ⟨h2, rfl⟩
  · rw [if_pos h2, if_pos q]
  · rw [if_pos h2, if_neg (by omega)]
  · rw [if_neg h2]; rfl

set_option maxHeartbeats 4000000 in
set_option maxRecDepth 100000 in
theorem f_X12_isSmall (l : Launch) (E : Ew) (c : Nat) (hc : c < 2147483648) : Fn l E 1 yX12_isSmall cX12_isSmall 1 (some .boolean) [.int (nI c)] [] (some (.int (bI (decide (97 ≤ c) && decide (c ≤ 122))))) [] := by
  refine fn_Z (by decide) (Nat.le_of_ble_eq_true rfl) rfl (nar_bI _) ?_
  intro K hC hR
  show G K E 1 [] [(0, .int (nI c))] 0 []
  refine g_iload_n hC dX12_isSmall_0 rfl 0 rfl ?_
  refine g_i2l hC dX12_isSmall_1 ?_
  refine g_ldc2 (v := 97) hC dX12_isSmall_2 m5_16 ?_
  refine g_ldc2 (v := 122) hC dX12_isSmall_5 m5_17 ?_
  refine g_callS hC (f_X12_in (kl K) E ((nI c).toInt64) 97 122) wX12_in m4_31 dX12_isSmall_8 [] [] (by decide) rfl (Nat.le_of_ble_eq_true rfl) rfl rfl rfl rfl rfl ?_
  refine g_val (v' := .int (bI (decide (97 ≤ c) && decide (c ≤ 122)))) (by rw [inl_lit (l := 97) (h := 122) hc (by decide) (by decide)]) ?_
  exact g_val (rfl) (g_ws (rfl) (hR _ _ dX12_isSmall_11))
set_option maxHeartbeats 4000000 in
set_option maxRecDepth 100000 in
theorem f_X12_isFigure (l : Launch) (E : Ew) (c : Nat) (hc : c < 2147483648) : Fn l E 1 yX12_isFigure cX12_isFigure 1 (some .boolean) [.int (nI c)] [] (some (.int (bI (decide (48 ≤ c) && decide (c ≤ 57))))) [] := by
  refine fn_Z (by decide) (Nat.le_of_ble_eq_true rfl) rfl (nar_bI _) ?_
  intro K hC hR
  show G K E 1 [] [(0, .int (nI c))] 0 []
  refine g_iload_n hC dX12_isFigure_0 rfl 0 rfl ?_
  refine g_i2l hC dX12_isFigure_1 ?_
  refine g_ldc2 (v := 48) hC dX12_isFigure_2 m5_21 ?_
  refine g_ldc2 (v := 57) hC dX12_isFigure_5 m5_22 ?_
  refine g_callS hC (f_X12_in (kl K) E ((nI c).toInt64) 48 57) wX12_in m4_31 dX12_isFigure_8 [] [] (by decide) rfl (Nat.le_of_ble_eq_true rfl) rfl rfl rfl rfl rfl ?_
  refine g_val (v' := .int (bI (decide (48 ≤ c) && decide (c ≤ 57)))) (by rw [inl_lit (l := 48) (h := 57) hc (by decide) (by decide)]) ?_
  exact g_val (rfl) (g_ws (rfl) (hR _ _ dX12_isFigure_11))
set_option maxHeartbeats 4000000 in
set_option maxRecDepth 100000 in
theorem f_X12_type_ok (l : Launch) (E : Ew) (q : Nat → Nat) (ab : Int64) (be : Int64) (fe : Int32) (fc : Int32) (mo : Int32) (ta : Int32) (tl : Int32) (tkn : Int32) (va : Int32) (r : Nat → Int32) (b : Nat → Int32) (L : Nat) (c : Nat) (hL : L < 150) (hc : c < 128) : Fn l E 1 yX12_type cX12_type 2 (some .int) [.ref (q 0), .int (nI c)] [(q 0, .inr (12, oM q ab be fe fc mo (nI L) ta tl tkn va)), (q 4, .inl (E.2.1 0, 3, .inl r)), (q 7, .inl (E.2.1 0, 150, .inl b))] (some (.int (nI (L + 1)))) [(q 0, .inr (12, oM q ab be fe fc mo (nI (L + 1)) ta tl tkn va)), (q 4, .inl (E.2.1 0, 3, .inl r)), (q 7, .inl (E.2.1 0, 150, .inl (upd b L (nI c))))] := by
  refine fn_I (by decide) (Nat.le_of_ble_eq_true rfl) rfl ?_
  intro K hC hR
  show G K E 2 [(q 0, .inr (12, oM q ab be fe fc mo (nI L) ta tl tkn va)), (q 4, .inl (E.2.1 0, 3, .inl r)), (q 7, .inl (E.2.1 0, 150, .inl b))] [(0, .ref (q 0)), (1, .int (nI c))] 0 []
  refine g_iload_n hC dX12_type_0 rfl 1 rfl ?_
  refine g_i2l hC dX12_type_1 ?_
  refine g_lconst (v := 0) hC dX12_type_2 (by decide) ?_
  refine g_ldc2 (v := 127) hC dX12_type_3 m5_0 ?_
  refine g_callS hC (f_X12_in (kl K) E ((nI c).toInt64) 0 127) wX12_in m4_31 dX12_type_6 [] [(q 0, .inr (12, oM q ab be fe fc mo (nI L) ta tl tkn va)), (q 4, .inl (E.2.1 0, 3, .inl r)), (q 7, .inl (E.2.1 0, 150, .inl b))] (by decide) rfl (Nat.le_of_ble_eq_true rfl) rfl rfl rfl rfl rfl ?_
  refine g_val (v' := .int (bI (inB (nI c) 128))) (by rw [inlC (n := 128) (by decide)]) ?_
  refine g_if_neB (tgt := 19) hC dX12_type_9 (by decide) (fun h_9 => ?_) (fun h_9 => ?_)
  · refine g_aload_n hC dX12_type_19 rfl 0 rfl ?_
    refine g_get hC 0 12 12 inX12 m3_220 dX12_type_20 rfl rfl (by decide) rfl ?_
    refine g_sipush (v := (nI 150)) hC dX12_type_23 (by decide) ?_
    refine g_icmp_neN (tgt := 34) hC dX12_type_26 (by decide) (by omega) (by omega) (fun h_26 => ?_) (fun h_26 => ?_)
    · refine g_aload_n hC dX12_type_34 rfl 0 rfl ?_
      refine g_get hC 0 12 11 inX12 m3_219 dX12_type_35 rfl rfl (by decide) rfl ?_
      refine g_aload_n hC dX12_type_38 rfl 0 rfl ?_
      refine g_get hC 0 12 12 inX12 m3_220 dX12_type_39 rfl rfl (by decide) rfl ?_
      refine g_iload_n hC dX12_type_42 rfl 1 rfl ?_
      refine g_iastN hC 2 [(q 0, .inr (12, oM q ab be fe fc mo (nI L) ta tl tkn va)), (q 4, .inl (E.2.1 0, 3, .inl r)), (q 7, .inl (E.2.1 0, 150, .inl (upd b L (nI c))))] dX12_type_43 rfl (by decide) (by omega) rfl ?_
      refine g_aload_n hC dX12_type_44 rfl 0 rfl ?_
      refine g_dup hC dX12_type_45 rfl ?_
      refine g_get hC 0 12 12 inX12 m3_220 dX12_type_46 rfl rfl (by decide) rfl ?_
      refine g_iconst (v := (nI 1)) hC dX12_type_49 (by decide) ?_
      refine g_iaddN hC dX12_type_50 ?_
      refine g_put hC 0 12 12 [(q 0, .inr (12, oM q ab be fe fc mo (nI (L + 1)) ta tl tkn va)), (q 4, .inl (E.2.1 0, 3, .inl r)), (q 7, .inl (E.2.1 0, 150, .inl (upd b L (nI c))))] .int inX12 tyX12_ok nmX12 m3_220 dX12_type_51 rfl rfl (by decide) rfl (by decide +kernel) rfl rfl (Nat.le_of_ble_eq_true rfl) rfl ?_
      refine g_aload_n hC dX12_type_54 rfl 0 rfl ?_
      refine g_get hC 0 12 12 inX12 m3_220 dX12_type_55 rfl rfl (by decide) rfl ?_
      exact g_val (rfl) (g_ws (rfl) (hR _ _ dX12_type_58))
    · omega
  · exact Bool.noConfusion ((inB_ok (by omega) (by omega)).symm.trans h_9)
set_option maxHeartbeats 4000000 in
set_option maxRecDepth 100000 in
theorem f_X12_type_full (l : Launch) (E : Ew) (q : Nat → Nat) (ab : Int64) (be : Int64) (fe : Int32) (fc : Int32) (mo : Int32) (ta : Int32) (tl : Int32) (tkn : Int32) (va : Int32) (r : Nat → Int32) (b : Nat → Int32) (c : Nat) (hc : c < 128) : Fn l E 1 yX12_type cX12_type 2 (some .int) [.ref (q 0), .int (nI c)] [(q 0, .inr (12, oM q ab be fe fc mo (nI 150) ta tl tkn va)), (q 4, .inl (E.2.1 0, 3, .inl r)), (q 7, .inl (E.2.1 0, 150, .inl b))] (some (.int (-4))) [(q 0, .inr (12, oM q ab be fe fc mo (nI 150) ta tl tkn va)), (q 4, .inl (E.2.1 0, 3, .inl (upd r 2 (r 2 + nI 1)))), (q 7, .inl (E.2.1 0, 150, .inl b))] := by
  refine fn_I (by decide) (Nat.le_of_ble_eq_true rfl) rfl ?_
  intro K hC hR
  show G K E 2 [(q 0, .inr (12, oM q ab be fe fc mo (nI 150) ta tl tkn va)), (q 4, .inl (E.2.1 0, 3, .inl r)), (q 7, .inl (E.2.1 0, 150, .inl b))] [(0, .ref (q 0)), (1, .int (nI c))] 0 []
  refine g_iload_n hC dX12_type_0 rfl 1 rfl ?_
  refine g_i2l hC dX12_type_1 ?_
  refine g_lconst (v := 0) hC dX12_type_2 (by decide) ?_
  refine g_ldc2 (v := 127) hC dX12_type_3 m5_0 ?_
  refine g_callS hC (f_X12_in (kl K) E ((nI c).toInt64) 0 127) wX12_in m4_31 dX12_type_6 [] [(q 0, .inr (12, oM q ab be fe fc mo (nI 150) ta tl tkn va)), (q 4, .inl (E.2.1 0, 3, .inl r)), (q 7, .inl (E.2.1 0, 150, .inl b))] (by decide) rfl (Nat.le_of_ble_eq_true rfl) rfl rfl rfl rfl rfl ?_
  refine g_val (v' := .int (bI (inB (nI c) 128))) (by rw [inlC (n := 128) (by decide)]) ?_
  refine g_if_neB (tgt := 19) hC dX12_type_9 (by decide) (fun h_9 => ?_) (fun h_9 => ?_)
  · refine g_aload_n hC dX12_type_19 rfl 0 rfl ?_
    refine g_get hC 0 12 12 inX12 m3_220 dX12_type_20 rfl rfl (by decide) rfl ?_
    refine g_sipush (v := (nI 150)) hC dX12_type_23 (by decide) ?_
    refine g_icmp_neN (tgt := 34) hC dX12_type_26 (by decide) (by omega) (by omega) (fun h_26 => ?_) (fun h_26 => ?_)
    · omega
    · refine g_aload_n hC dX12_type_29 rfl 0 rfl ?_
      refine g_callV hC (f_X12_full (kl K) E q ab be fe fc mo (nI 150) ta tl tkn va r) wX12_full m4_51 dX12_type_30 [0, 1] [(q 0, .inr (12, oM q ab be fe fc mo (nI 150) ta tl tkn va)), (q 4, .inl (E.2.1 0, 3, .inl (upd r 2 (r 2 + nI 1)))), (q 7, .inl (E.2.1 0, 150, .inl b))] 0 12 rfl rfl (by decide) rfl (Nat.le_of_ble_eq_true rfl) rfl rfl rfl rfl rfl ?_
      exact g_val (rfl) (g_ws (rfl) (hR _ _ dX12_type_33))
  · exact Bool.noConfusion ((inB_ok (by omega) (by omega)).symm.trans h_9)
set_option maxHeartbeats 4000000 in
set_option maxRecDepth 100000 in
theorem f_X12_type_bad (l : Launch) (E : Ew) (q : Nat → Nat) (ab : Int64) (be : Int64) (fe : Int32) (fc : Int32) (mo : Int32) (bl : Int32) (ta : Int32) (tl : Int32) (tkn : Int32) (va : Int32) (r : Nat → Int32) (b : Nat → Int32) (c : Int32) (hb : inB c 128 = false) : Fn l E 1 yX12_type cX12_type 2 (some .int) [.ref (q 0), .int c] [(q 0, .inr (12, oM q ab be fe fc mo bl ta tl tkn va)), (q 4, .inl (E.2.1 0, 3, .inl r)), (q 7, .inl (E.2.1 0, 150, .inl b))] (some (.int (-2))) [(q 0, .inr (12, oM q ab be fe fc mo bl ta tl tkn va)), (q 4, .inl (E.2.1 0, 3, .inl (upd r 0 (r 0 + nI 1)))), (q 7, .inl (E.2.1 0, 150, .inl b))] := by
  refine fn_I (by decide) (Nat.le_of_ble_eq_true rfl) rfl ?_
  intro K hC hR
  show G K E 2 [(q 0, .inr (12, oM q ab be fe fc mo bl ta tl tkn va)), (q 4, .inl (E.2.1 0, 3, .inl r)), (q 7, .inl (E.2.1 0, 150, .inl b))] [(0, .ref (q 0)), (1, .int c)] 0 []
  refine g_iload_n hC dX12_type_0 rfl 1 rfl ?_
  refine g_i2l hC dX12_type_1 ?_
  refine g_lconst (v := 0) hC dX12_type_2 (by decide) ?_
  refine g_ldc2 (v := 127) hC dX12_type_3 m5_0 ?_
  refine g_callS hC (f_X12_in (kl K) E c.toInt64 0 127) wX12_in m4_31 dX12_type_6 [] [(q 0, .inr (12, oM q ab be fe fc mo bl ta tl tkn va)), (q 4, .inl (E.2.1 0, 3, .inl r)), (q 7, .inl (E.2.1 0, 150, .inl b))] (by decide) rfl (Nat.le_of_ble_eq_true rfl) rfl rfl rfl rfl rfl ?_
  refine g_val (v' := .int (bI (inB c 128))) (by rw [inlC (n := 128) (by decide)]) ?_
  refine g_if_neB (tgt := 19) hC dX12_type_9 (by decide) (fun h_9 => ?_) (fun h_9 => ?_)
  · exact absurd h_9 (by rw [hb]; decide)
  · refine g_aload_n hC dX12_type_12 rfl 0 rfl ?_
    refine g_bipush (v := (-2)) hC dX12_type_13 (by decide) ?_
    refine g_callV hC (f_X12_bad (kl K) E q ab be fe fc mo bl ta tl tkn va r (-2)) wX12_bad m4_34 dX12_type_15 [0, 1] [(q 0, .inr (12, oM q ab be fe fc mo bl ta tl tkn va)), (q 4, .inl (E.2.1 0, 3, .inl (upd r 0 (r 0 + nI 1)))), (q 7, .inl (E.2.1 0, 150, .inl b))] 0 12 rfl rfl (by decide) rfl (Nat.le_of_ble_eq_true rfl) rfl rfl rfl rfl rfl ?_
    exact g_val (rfl) (g_ws (rfl) (hR _ _ dX12_type_18))
set_option maxHeartbeats 4000000 in
set_option maxRecDepth 100000 in
theorem f_X12_clear (l : Launch) (E : Ew) (q : Nat → Nat) (ab : Int64) (be : Int64) (fe : Int32) (fc : Int32) (mo : Int32) (bl : Int32) (ta : Int32) (tl : Int32) (tkn : Int32) (va : Int32)  : Fn l E 0 yX12_clear cX12_clear 2 (some .int) [.ref (q 0)] [(q 0, .inr (12, oM q ab be fe fc mo bl ta tl tkn va))] (some (.int bl)) [(q 0, .inr (12, oM q ab be fe fc mo (nI 0) ta tl tkn va))] := by
  refine fn_I (by decide) (Nat.le_of_ble_eq_true rfl) rfl ?_
  intro K hC hR
  show G K E 2 [(q 0, .inr (12, oM q ab be fe fc mo bl ta tl tkn va))] [(0, .ref (q 0))] 0 []
  refine g_aload_n hC dX12_clear_0 rfl 0 rfl ?_
  refine g_get hC 0 12 12 inX12 m3_220 dX12_clear_1 rfl rfl (by decide) rfl ?_
  refine g_istore_n hC [(1, .int bl), (0, .ref (q 0))] dX12_clear_4 rfl (by decide) rfl ?_
  refine g_aload_n hC dX12_clear_5 rfl 1 rfl ?_
  refine g_iconst (v := (nI 0)) hC dX12_clear_6 (by decide) ?_
  refine g_put hC 0 12 12 [(q 0, .inr (12, oM q ab be fe fc mo (nI 0) ta tl tkn va))] .int inX12 tyX12_ok nmX12 m3_220 dX12_clear_7 rfl rfl (by decide) rfl (by decide +kernel) rfl rfl (Nat.le_of_ble_eq_true rfl) rfl ?_
  refine g_iload_n hC dX12_clear_10 rfl 0 rfl ?_
  exact g_val (rfl) (g_ws (rfl) (hR _ _ dX12_clear_11))
set_option maxHeartbeats 4000000 in
set_option maxRecDepth 100000 in
theorem f_X12_lookAt (l : Launch) (E : Ew) (q : Nat → Nat) (ab : Int64) (be : Int64) (fe : Int32) (fc : Int32) (mo : Int32) (ta : Int32) (tl : Int32) (tkn : Int32) (va : Int32) (b : Nat → Int32) (T : Nat → Nat) (L : Nat) (i : Nat) (hL : L ≤ 150) (hT : ∀ j, j < L → b j = nI (T j) ∧ T j < 128) (hi : i ≤ L) : Fn l E 2 yX12_lookAt cX12_lookAt 5 none [.ref (q 0), .int (nI i)] [(q 0, .inr (12, oM q ab be fe fc mo (nI L) ta tl tkn va)), (q 7, .inl (E.2.1 0, 150, .inl b))] none [(q 0, .inr (12, oM q ab be fe fc mo (nI L) (nI (tA T L i)) (nI (tE T L i - tA T L i)) (nI (tK T L i)) (nI (tV T L i)))), (q 7, .inl (E.2.1 0, 150, .inl b))] := by
  refine fn_V (by decide) (Nat.le_of_ble_eq_true rfl) rfl ?_
  intro K hC hR
  show G K E 5 [(q 0, .inr (12, oM q ab be fe fc mo (nI L) ta tl tkn va)), (q 7, .inl (E.2.1 0, 150, .inl b))] [(0, .ref (q 0)), (1, .int (nI i))] 0 []
  have hal := tA_le (T := T) hi
  have J_43 : G K E 5 [(q 0, .inr (12, oM q ab be fe fc mo (nI L) (nI (tA T L i)) tl tkn va)), (q 7, .inl (E.2.1 0, 150, .inl b))] [(0, .ref (q 0)), (1, .int (nI i))] 43 [] := by
    refine g_aload_n hC dX12_lookAt_43 rfl 0 rfl ?_
    refine g_iconst (v := (nI 0)) hC dX12_lookAt_44 (by decide) ?_
    refine g_put hC 0 12 14 [(q 0, .inr (12, oM q ab be fe fc mo (nI L) (nI (tA T L i)) (nI 0) tkn va)), (q 7, .inl (E.2.1 0, 150, .inl b))] .int inX12 tyX12_ok nmX12 m3_222 dX12_lookAt_45 rfl rfl (by decide) rfl (by decide +kernel) rfl rfl (Nat.le_of_ble_eq_true rfl) rfl ?_
    refine g_aload_n hC dX12_lookAt_48 rfl 0 rfl ?_
    refine g_iconst (v := (nI 0)) hC dX12_lookAt_49 (by decide) ?_
    refine g_put hC 0 12 15 [(q 0, .inr (12, oM q ab be fe fc mo (nI L) (nI (tA T L i)) (nI 0) (nI 0) va)), (q 7, .inl (E.2.1 0, 150, .inl b))] .int inX12 tyX12_ok nmX12 m3_223 dX12_lookAt_50 rfl rfl (by decide) rfl (by decide +kernel) rfl rfl (Nat.le_of_ble_eq_true rfl) rfl ?_
    refine g_aload_n hC dX12_lookAt_53 rfl 0 rfl ?_
    refine g_iconst (v := (nI 0)) hC dX12_lookAt_54 (by decide) ?_
    refine g_put hC 0 12 16 [(q 0, .inr (12, oM q ab be fe fc mo (nI L) (nI (tA T L i)) (nI 0) (nI 0) (nI 0))), (q 7, .inl (E.2.1 0, 150, .inl b))] .int inX12 tyX12_ok nmX12 m3_224 dX12_lookAt_55 rfl rfl (by decide) rfl (by decide +kernel) rfl rfl (Nat.le_of_ble_eq_true rfl) rfl ?_
    refine g_aload_n hC dX12_lookAt_58 rfl 0 rfl ?_
    refine g_get hC 0 12 13 inX12 m3_221 dX12_lookAt_59 rfl rfl (by decide) rfl ?_
    refine g_aload_n hC dX12_lookAt_62 rfl 0 rfl ?_
    refine g_get hC 0 12 12 inX12 m3_220 dX12_lookAt_63 rfl rfl (by decide) rfl ?_
    refine g_icmp_neN (tgt := 70) hC dX12_lookAt_66 (by decide) (by omega) (by omega) (fun h_66 => ?_) (fun h_66 => ?_)
    · have hlt : tA T L i < L := by omega
      have hTl := (hT _ hlt).2
      refine g_aload_n hC dX12_lookAt_70 rfl 0 rfl ?_
      refine g_get hC 0 12 11 inX12 m3_219 dX12_lookAt_71 rfl rfl (by decide) rfl ?_
      refine g_aload_n hC dX12_lookAt_74 rfl 0 rfl ?_
      refine g_get hC 0 12 13 inX12 m3_221 dX12_lookAt_75 rfl rfl (by decide) rfl ?_
      refine g_ialdN hC 1 dX12_lookAt_78 rfl (by decide) (by omega) ?_
      refine g_val (v' := .int (nI (T (tA T L i)))) (by rw [(hT _ (by omega)).1]) ?_
      refine g_istore_n hC [(2, .int (nI (T (tA T L i)))), (0, .ref (q 0)), (1, .int (nI i))] dX12_lookAt_79 rfl (by decide) rfl ?_
      have J_114 : ∀ (s0 : Nat) (hs0 : s0 = so (T (tA T L i))), G K E 5 [(q 0, .inr (12, oM q ab be fe fc mo (nI L) (nI (tA T L i)) (nI 0) (nI 0) (nI 0))), (q 7, .inl (E.2.1 0, 150, .inl b))] [(2, .int (nI (T (tA T L i)))), (0, .ref (q 0)), (1, .int (nI i))] 114 [.int (nI s0), .ref (q 0)] := by
        intro s0 hs0
        have hsi := so_in (T (tA T L i))
        rw [← hs0] at hsi
        refine g_put hC 0 12 15 [(q 0, .inr (12, oM q ab be fe fc mo (nI L) (nI (tA T L i)) (nI 0) (nI s0) (nI 0))), (q 7, .inl (E.2.1 0, 150, .inl b))] .int inX12 tyX12_ok nmX12 m3_223 dX12_lookAt_114 rfl rfl (by decide) rfl (by decide +kernel) rfl rfl (Nat.le_of_ble_eq_true rfl) rfl ?_
        refine g_aload_n hC dX12_lookAt_117 rfl 1 rfl ?_
        refine g_iconst (v := (nI 1)) hC dX12_lookAt_118 (by decide) ?_
        refine g_put hC 0 12 14 [(q 0, .inr (12, oM q ab be fe fc mo (nI L) (nI (tA T L i)) (nI 1) (nI s0) (nI 0))), (q 7, .inl (E.2.1 0, 150, .inl b))] .int inX12 tyX12_ok nmX12 m3_222 dX12_lookAt_119 rfl rfl (by decide) rfl (by decide +kernel) rfl rfl (Nat.le_of_ble_eq_true rfl) rfl ?_
        have J_215 : ∀ (e : Nat) (he1 : 1 ≤ e) (heL : tA T L i + e ≤ L) (htE : tE T L i = tA T L i + e) (hrun : ∀ j, j < e → so (T (tA T L i + j)) = s0), G K E 5 [(q 0, .inr (12, oM q ab be fe fc mo (nI L) (nI (tA T L i)) (nI e) (nI s0) (nI 0))), (q 7, .inl (E.2.1 0, 150, .inl b))] [(0, .ref (q 0))] 215 [] := by
          intro e he1 heL htE hrun
          refine g_iconst (v := (nI 0)) hC dX12_lookAt_215 (by decide) ?_
          refine g_istore hC [(4, .int (nI 0)), (0, .ref (q 0))] dX12_lookAt_216 (by decide) rfl ?_
          have L_218 : ∀ (fu : Nat) (k : Nat) (hk : k ≤ 2) (hke : k ≤ e) (hk2 : k = 0 ∨ s0 = 2), 2 - k < fu → G K E 5 [(q 0, .inr (12, oM q ab be fe fc mo (nI L) (nI (tA T L i)) (nI e) (nI s0) (nI (dv T (tA T L i) k)))), (q 7, .inl (E.2.1 0, 150, .inl b))] [(4, .int (nI k)), (0, .ref (q 0))] 218 [] := by
            intro fu
            induction fu with
            | zero => intro k hk hke hk2 hm_218; exact absurd hm_218 (Nat.not_lt_zero _)
            | succ fu ih_218 =>
              intro k hk hke hk2 hm_218
              refine g_iload hC dX12_lookAt_218 0 rfl ?_
              refine g_aload_n hC dX12_lookAt_220 rfl 1 rfl ?_
              refine g_get hC 0 12 14 inX12 m3_222 dX12_lookAt_221 rfl rfl (by decide) rfl ?_
              refine g_icmp_geN (tgt := 274) hC dX12_lookAt_224 (by decide) (by omega) (by omega) (fun h_224 => ?_) (fun h_224 => ?_)
              · refine g_aload_n hC dX12_lookAt_274 rfl 1 rfl ?_
                refine g_aload_n hC dX12_lookAt_275 rfl 1 rfl ?_
                refine g_get hC 0 12 15 inX12 m3_223 dX12_lookAt_276 rfl rfl (by decide) rfl ?_
                refine g_iconst (v := (nI 2)) hC dX12_lookAt_279 (by decide) ?_
                refine g_icmp_neN (tgt := 295) hC dX12_lookAt_280 (by decide) (by omega) (by omega) (fun h_280 => ?_) (fun h_280 => ?_)
                · refine g_aload_n hC dX12_lookAt_295 rfl 1 rfl ?_
                  refine g_get hC 0 12 15 inX12 m3_223 dX12_lookAt_296 rfl rfl (by decide) rfl ?_
                  refine g_put hC 0 12 15 [(q 0, .inr (12, oM q ab be fe fc mo (nI L) (nI (tA T L i)) (nI e) (nI s0) (nI (dv T (tA T L i) k)))), (q 7, .inl (E.2.1 0, 150, .inl b))] .int inX12 tyX12_ok nmX12 m3_223 dX12_lookAt_299 rfl rfl (by decide) rfl (by decide +kernel) rfl rfl (Nat.le_of_ble_eq_true rfl) rfl ?_
                  exact g_ws (by rw [lk_tl htE, lk_tkO hlt hs0 htE (by omega), lk_tv (k := k) hlt hs0 htE (by omega)]) (hR _ _ dX12_lookAt_302)
                · refine g_aload_n hC dX12_lookAt_283 rfl 1 rfl ?_
                  refine g_get hC 0 12 14 inX12 m3_222 dX12_lookAt_284 rfl rfl (by decide) rfl ?_
                  refine g_iconst (v := (nI 2)) hC dX12_lookAt_287 (by decide) ?_
                  refine g_icmp_leN (tgt := 295) hC dX12_lookAt_288 (by decide) (by omega) (by omega) (fun h_288 => ?_) (fun h_288 => ?_)
                  · refine g_aload_n hC dX12_lookAt_295 rfl 1 rfl ?_
                    refine g_get hC 0 12 15 inX12 m3_223 dX12_lookAt_296 rfl rfl (by decide) rfl ?_
                    refine g_put hC 0 12 15 [(q 0, .inr (12, oM q ab be fe fc mo (nI L) (nI (tA T L i)) (nI e) (nI s0) (nI (dv T (tA T L i) k)))), (q 7, .inl (E.2.1 0, 150, .inl b))] .int inX12 tyX12_ok nmX12 m3_223 dX12_lookAt_299 rfl rfl (by decide) rfl (by decide +kernel) rfl rfl (Nat.le_of_ble_eq_true rfl) rfl ?_
                    exact g_ws (by rw [lk_tl htE, lk_tkO hlt hs0 htE (by omega), lk_tv (k := k) hlt hs0 htE (by omega)]) (hR _ _ dX12_lookAt_302)
                  · refine g_iconst (v := (nI 4)) hC dX12_lookAt_291 (by decide) ?_
                    refine g_goto (tgt := 299) hC dX12_lookAt_292 (by decide) ?_
                    refine g_put hC 0 12 15 [(q 0, .inr (12, oM q ab be fe fc mo (nI L) (nI (tA T L i)) (nI e) (nI 4) (nI (dv T (tA T L i) k)))), (q 7, .inl (E.2.1 0, 150, .inl b))] .int inX12 tyX12_ok nmX12 m3_223 dX12_lookAt_299 rfl rfl (by decide) rfl (by decide +kernel) rfl rfl (Nat.le_of_ble_eq_true rfl) rfl ?_
                    exact g_ws (by rw [lk_tl htE, lk_tk4 hlt hs0 htE h_280 h_288, lk_tv (k := k) hlt hs0 htE (by omega)]) (hR _ _ dX12_lookAt_302)
              · refine g_iload hC dX12_lookAt_227 0 rfl ?_
                refine g_iconst (v := (nI 2)) hC dX12_lookAt_229 (by decide) ?_
                refine g_icmp_geN (tgt := 274) hC dX12_lookAt_230 (by decide) (by omega) (by omega) (fun h_230 => ?_) (fun h_230 => ?_)
                · refine g_aload_n hC dX12_lookAt_274 rfl 1 rfl ?_
                  refine g_aload_n hC dX12_lookAt_275 rfl 1 rfl ?_
                  refine g_get hC 0 12 15 inX12 m3_223 dX12_lookAt_276 rfl rfl (by decide) rfl ?_
                  refine g_iconst (v := (nI 2)) hC dX12_lookAt_279 (by decide) ?_
                  refine g_icmp_neN (tgt := 295) hC dX12_lookAt_280 (by decide) (by omega) (by omega) (fun h_280 => ?_) (fun h_280 => ?_)
                  · refine g_aload_n hC dX12_lookAt_295 rfl 1 rfl ?_
                    refine g_get hC 0 12 15 inX12 m3_223 dX12_lookAt_296 rfl rfl (by decide) rfl ?_
                    refine g_put hC 0 12 15 [(q 0, .inr (12, oM q ab be fe fc mo (nI L) (nI (tA T L i)) (nI e) (nI s0) (nI (dv T (tA T L i) k)))), (q 7, .inl (E.2.1 0, 150, .inl b))] .int inX12 tyX12_ok nmX12 m3_223 dX12_lookAt_299 rfl rfl (by decide) rfl (by decide +kernel) rfl rfl (Nat.le_of_ble_eq_true rfl) rfl ?_
                    exact g_ws (by rw [lk_tl htE, lk_tkO hlt hs0 htE (by omega), lk_tv (k := k) hlt hs0 htE (by omega)]) (hR _ _ dX12_lookAt_302)
                  · refine g_aload_n hC dX12_lookAt_283 rfl 1 rfl ?_
                    refine g_get hC 0 12 14 inX12 m3_222 dX12_lookAt_284 rfl rfl (by decide) rfl ?_
                    refine g_iconst (v := (nI 2)) hC dX12_lookAt_287 (by decide) ?_
                    refine g_icmp_leN (tgt := 295) hC dX12_lookAt_288 (by decide) (by omega) (by omega) (fun h_288 => ?_) (fun h_288 => ?_)
                    · refine g_aload_n hC dX12_lookAt_295 rfl 1 rfl ?_
                      refine g_get hC 0 12 15 inX12 m3_223 dX12_lookAt_296 rfl rfl (by decide) rfl ?_
                      refine g_put hC 0 12 15 [(q 0, .inr (12, oM q ab be fe fc mo (nI L) (nI (tA T L i)) (nI e) (nI s0) (nI (dv T (tA T L i) k)))), (q 7, .inl (E.2.1 0, 150, .inl b))] .int inX12 tyX12_ok nmX12 m3_223 dX12_lookAt_299 rfl rfl (by decide) rfl (by decide +kernel) rfl rfl (Nat.le_of_ble_eq_true rfl) rfl ?_
                      exact g_ws (by rw [lk_tl htE, lk_tkO hlt hs0 htE (by omega), lk_tv (k := k) hlt hs0 htE (by omega)]) (hR _ _ dX12_lookAt_302)
                    · refine g_iconst (v := (nI 4)) hC dX12_lookAt_291 (by decide) ?_
                      refine g_goto (tgt := 299) hC dX12_lookAt_292 (by decide) ?_
                      refine g_put hC 0 12 15 [(q 0, .inr (12, oM q ab be fe fc mo (nI L) (nI (tA T L i)) (nI e) (nI 4) (nI (dv T (tA T L i) k)))), (q 7, .inl (E.2.1 0, 150, .inl b))] .int inX12 tyX12_ok nmX12 m3_223 dX12_lookAt_299 rfl rfl (by decide) rfl (by decide +kernel) rfl rfl (Nat.le_of_ble_eq_true rfl) rfl ?_
                      exact g_ws (by rw [lk_tl htE, lk_tk4 hlt hs0 htE h_280 h_288, lk_tv (k := k) hlt hs0 htE (by omega)]) (hR _ _ dX12_lookAt_302)
                · refine g_aload_n hC dX12_lookAt_233 rfl 1 rfl ?_
                  refine g_get hC 0 12 15 inX12 m3_223 dX12_lookAt_234 rfl rfl (by decide) rfl ?_
                  refine g_iconst (v := (nI 2)) hC dX12_lookAt_237 (by decide) ?_
                  refine g_icmp_neN (tgt := 274) hC dX12_lookAt_238 (by decide) (by omega) (by omega) (fun h_238 => ?_) (fun h_238 => ?_)
                  · refine g_aload_n hC dX12_lookAt_274 rfl 1 rfl ?_
                    refine g_aload_n hC dX12_lookAt_275 rfl 1 rfl ?_
                    refine g_get hC 0 12 15 inX12 m3_223 dX12_lookAt_276 rfl rfl (by decide) rfl ?_
                    refine g_iconst (v := (nI 2)) hC dX12_lookAt_279 (by decide) ?_
                    refine g_icmp_neN (tgt := 295) hC dX12_lookAt_280 (by decide) (by omega) (by omega) (fun h_280 => ?_) (fun h_280 => ?_)
                    · refine g_aload_n hC dX12_lookAt_295 rfl 1 rfl ?_
                      refine g_get hC 0 12 15 inX12 m3_223 dX12_lookAt_296 rfl rfl (by decide) rfl ?_
                      refine g_put hC 0 12 15 [(q 0, .inr (12, oM q ab be fe fc mo (nI L) (nI (tA T L i)) (nI e) (nI s0) (nI (dv T (tA T L i) k)))), (q 7, .inl (E.2.1 0, 150, .inl b))] .int inX12 tyX12_ok nmX12 m3_223 dX12_lookAt_299 rfl rfl (by decide) rfl (by decide +kernel) rfl rfl (Nat.le_of_ble_eq_true rfl) rfl ?_
                      exact g_ws (by rw [lk_tl htE, lk_tkO hlt hs0 htE (by omega), lk_tv (k := k) hlt hs0 htE (by omega)]) (hR _ _ dX12_lookAt_302)
                    · refine g_aload_n hC dX12_lookAt_283 rfl 1 rfl ?_
                      refine g_get hC 0 12 14 inX12 m3_222 dX12_lookAt_284 rfl rfl (by decide) rfl ?_
                      refine g_iconst (v := (nI 2)) hC dX12_lookAt_287 (by decide) ?_
                      refine g_icmp_leN (tgt := 295) hC dX12_lookAt_288 (by decide) (by omega) (by omega) (fun h_288 => ?_) (fun h_288 => ?_)
                      · refine g_aload_n hC dX12_lookAt_295 rfl 1 rfl ?_
                        refine g_get hC 0 12 15 inX12 m3_223 dX12_lookAt_296 rfl rfl (by decide) rfl ?_
                        refine g_put hC 0 12 15 [(q 0, .inr (12, oM q ab be fe fc mo (nI L) (nI (tA T L i)) (nI e) (nI s0) (nI (dv T (tA T L i) k)))), (q 7, .inl (E.2.1 0, 150, .inl b))] .int inX12 tyX12_ok nmX12 m3_223 dX12_lookAt_299 rfl rfl (by decide) rfl (by decide +kernel) rfl rfl (Nat.le_of_ble_eq_true rfl) rfl ?_
                        exact g_ws (by rw [lk_tl htE, lk_tkO hlt hs0 htE (by omega), lk_tv (k := k) hlt hs0 htE (by omega)]) (hR _ _ dX12_lookAt_302)
                      · refine g_iconst (v := (nI 4)) hC dX12_lookAt_291 (by decide) ?_
                        refine g_goto (tgt := 299) hC dX12_lookAt_292 (by decide) ?_
                        refine g_put hC 0 12 15 [(q 0, .inr (12, oM q ab be fe fc mo (nI L) (nI (tA T L i)) (nI e) (nI 4) (nI (dv T (tA T L i) k)))), (q 7, .inl (E.2.1 0, 150, .inl b))] .int inX12 tyX12_ok nmX12 m3_223 dX12_lookAt_299 rfl rfl (by decide) rfl (by decide +kernel) rfl rfl (Nat.le_of_ble_eq_true rfl) rfl ?_
                        exact g_ws (by rw [lk_tl htE, lk_tk4 hlt hs0 htE h_280 h_288, lk_tv (k := k) hlt hs0 htE (by omega)]) (hR _ _ dX12_lookAt_302)
                  · have hfg := so_2 ((hrun k (by omega)).trans h_238)
                    refine g_aload_n hC dX12_lookAt_241 rfl 1 rfl ?_
                    refine g_bipush (v := (nI 10)) hC dX12_lookAt_242 (by decide) ?_
                    refine g_aload_n hC dX12_lookAt_244 rfl 1 rfl ?_
                    refine g_get hC 0 12 16 inX12 m3_224 dX12_lookAt_245 rfl rfl (by decide) rfl ?_
                    refine g_imulN hC dX12_lookAt_248 ?_
                    refine g_aload_n hC dX12_lookAt_249 rfl 1 rfl ?_
                    refine g_get hC 0 12 11 inX12 m3_219 dX12_lookAt_250 rfl rfl (by decide) rfl ?_
                    refine g_aload_n hC dX12_lookAt_253 rfl 1 rfl ?_
                    refine g_get hC 0 12 13 inX12 m3_221 dX12_lookAt_254 rfl rfl (by decide) rfl ?_
                    refine g_iload hC dX12_lookAt_257 0 rfl ?_
                    refine g_iaddN hC dX12_lookAt_259 ?_
                    refine g_ialdN hC 1 dX12_lookAt_260 rfl (by decide) (by omega) ?_
                    refine g_val (v' := .int (nI (T (tA T L i + k)))) (by rw [(hT _ (by omega)).1]) ?_
                    refine g_iaddN hC dX12_lookAt_261 ?_
                    refine g_bipush (v := (nI 48)) hC dX12_lookAt_262 (by decide) ?_
                    refine g_isubN hC dX12_lookAt_264 (by omega) ?_
                    refine g_put hC 0 12 16 [(q 0, .inr (12, oM q ab be fe fc mo (nI L) (nI (tA T L i)) (nI e) (nI s0) (nI (((10 * (dv T (tA T L i) k)) + T (tA T L i + k)) - 48)))), (q 7, .inl (E.2.1 0, 150, .inl b))] .int inX12 tyX12_ok nmX12 m3_224 dX12_lookAt_265 rfl rfl (by decide) rfl (by decide +kernel) rfl rfl (Nat.le_of_ble_eq_true rfl) rfl ?_
                    refine g_iincN hC (q := 0) 1 [(4, .int (nI (k + 1))), (0, .ref (q 0))] dX12_lookAt_268 rfl rfl (by decide) rfl ?_
                    refine g_goto (tgt := 218) hC dX12_lookAt_271 (by decide) ?_
                    refine g_lv (lv' := [(4, .int (nI (k + 1))), (0, .ref (q 0))]) [0, 1] rfl ?_
                    refine g_ws (ws' := [(q 0, .inr (12, oM q ab be fe fc mo (nI L) (nI (tA T L i)) (nI e) (nI s0) (nI (dv T (tA T L i) (k + 1))))), (q 7, .inl (E.2.1 0, 150, .inl b))]) (rfl) ?_
                    exact ih_218 (k + 1) (by omega) (by omega) (Or.inr h_238) (by omega)
          refine g_lv (lv' := [(4, .int (nI 0)), (0, .ref (q 0))]) [0, 1] rfl ?_
          refine g_ws (ws' := [(q 0, .inr (12, oM q ab be fe fc mo (nI L) (nI (tA T L i)) (nI e) (nI s0) (nI (dv T (tA T L i) 0)))), (q 7, .inl (E.2.1 0, 150, .inl b))]) (rfl) ?_
          exact L_218 ((2 - 0) + 1) 0 (by omega) (by omega) (Or.inl rfl) (Nat.lt_succ_self _)
        refine g_aload_n hC dX12_lookAt_122 rfl 1 rfl ?_
        refine g_get hC 0 12 15 inX12 m3_223 dX12_lookAt_123 rfl rfl (by decide) rfl ?_
        refine g_iconst (v := (nI 3)) hC dX12_lookAt_126 (by decide) ?_
        refine g_icmp_geN (tgt := 134) hC dX12_lookAt_127 (by decide) (by omega) (by omega) (fun h_127 => ?_) (fun h_127 => ?_)
        · refine g_iconst (v := (nI 0)) hC dX12_lookAt_134 (by decide) ?_
          refine g_istore_n hC [(3, .int (nI 0)), (2, .int (nI (T (tA T L i)))), (0, .ref (q 0)), (1, .int (nI i))] dX12_lookAt_135 rfl (by decide) rfl ?_
          have L_136 : ∀ (fu : Nat) (gb : Bool) (e : Nat) (he1 : 1 ≤ e) (heL : tA T L i + e ≤ L) (hg1 : gb = true → s0 < 3 ∧ tE T L i = ew (fun j => decide (so (T j) = so (T (tA T L i)))) L (tA T L i + e)) (hg2 : gb = false → tE T L i = tA T L i + e) (hrun : ∀ j, j < e → so (T (tA T L i + j)) = s0), 2 * (L - (tA T L i + e)) + (if gb then 1 else 0) < fu → G K E 5 [(q 0, .inr (12, oM q ab be fe fc mo (nI L) (nI (tA T L i)) (nI e) (nI s0) (nI 0))), (q 7, .inl (E.2.1 0, 150, .inl b))] [(3, .int (bI gb)), (0, .ref (q 0))] 136 [] := by
            intro fu
            induction fu with
            | zero => intro gb e he1 heL hg1 hg2 hrun hm_136; exact absurd hm_136 (Nat.not_lt_zero _)
            | succ fu ih_136 =>
              intro gb e he1 heL hg1 hg2 hrun hm_136
              refine g_iload_n hC dX12_lookAt_136 rfl 0 rfl ?_
              refine g_if_eqB (tgt := 215) hC dX12_lookAt_137 (by decide) (fun h_137 => ?_) (fun h_137 => ?_)
              · refine g_lv (lv' := [(0, .ref (q 0))]) [1] rfl ?_
                exact J_215 e (by omega) (by omega) (hg2 h_137) (hrun)
              · refine g_aload_n hC dX12_lookAt_140 rfl 1 rfl ?_
                refine g_get hC 0 12 13 inX12 m3_221 dX12_lookAt_141 rfl rfl (by decide) rfl ?_
                refine g_aload_n hC dX12_lookAt_144 rfl 1 rfl ?_
                refine g_get hC 0 12 14 inX12 m3_222 dX12_lookAt_145 rfl rfl (by decide) rfl ?_
                refine g_iaddN hC dX12_lookAt_148 ?_
                refine g_aload_n hC dX12_lookAt_149 rfl 1 rfl ?_
                refine g_get hC 0 12 12 inX12 m3_220 dX12_lookAt_150 rfl rfl (by decide) rfl ?_
                refine g_icmp_geN (tgt := 215) hC dX12_lookAt_153 (by decide) (by omega) (by omega) (fun h_153 => ?_) (fun h_153 => ?_)
                · refine g_lv (lv' := [(0, .ref (q 0))]) [1] rfl ?_
                  exact J_215 e (by omega) (by omega) (by rw [(hg1 h_137).2, ew_stop (Or.inl h_153)]) (hrun)
                · have hTe := (hT _ h_153).2
                  have hs3 := (hg1 h_137).1
                  refine g_aload_n hC dX12_lookAt_156 rfl 1 rfl ?_
                  refine g_get hC 0 12 11 inX12 m3_219 dX12_lookAt_157 rfl rfl (by decide) rfl ?_
                  refine g_aload_n hC dX12_lookAt_160 rfl 1 rfl ?_
                  refine g_get hC 0 12 13 inX12 m3_221 dX12_lookAt_161 rfl rfl (by decide) rfl ?_
                  refine g_aload_n hC dX12_lookAt_164 rfl 1 rfl ?_
                  refine g_get hC 0 12 14 inX12 m3_222 dX12_lookAt_165 rfl rfl (by decide) rfl ?_
                  refine g_iaddN hC dX12_lookAt_168 ?_
                  refine g_ialdN hC 1 dX12_lookAt_169 rfl (by decide) (by omega) ?_
                  refine g_val (v' := .int (nI (T (tA T L i + e)))) (by rw [(hT _ (by omega)).1]) ?_
                  refine g_istore hC [(4, .int (nI (T (tA T L i + e)))), (3, .int (bI gb)), (0, .ref (q 0))] dX12_lookAt_170 (by decide) rfl ?_
                  refine g_aload_n hC dX12_lookAt_172 rfl 2 rfl ?_
                  refine g_get hC 0 12 15 inX12 m3_223 dX12_lookAt_173 rfl rfl (by decide) rfl ?_
                  refine g_iconst (v := (nI 1)) hC dX12_lookAt_176 (by decide) ?_
                  refine g_icmp_neN (tgt := 188) hC dX12_lookAt_177 (by decide) (by omega) (by omega) (fun h_177 => ?_) (fun h_177 => ?_)
                  · refine g_iload hC dX12_lookAt_188 0 rfl ?_
                    refine g_callS hC (f_X12_isFigure (kl K) E (T (tA T L i + e)) (by omega)) wX12_isFigure m5_18 dX12_lookAt_190 [] [(q 0, .inr (12, oM q ab be fe fc mo (nI L) (nI (tA T L i)) (nI e) (nI s0) (nI 0))), (q 7, .inl (E.2.1 0, 150, .inl b))] (by decide) rfl (Nat.le_of_ble_eq_true rfl) rfl rfl rfl rfl rfl ?_
                    refine g_istore_n hC [(3, .int (bI (decide (48 ≤ (T (tA T L i + e))) && decide ((T (tA T L i + e)) ≤ 57)))), (4, .int (nI (T (tA T L i + e)))), (0, .ref (q 0))] dX12_lookAt_193 rfl (by decide) rfl ?_
                    refine g_aload_n hC dX12_lookAt_194 rfl 2 rfl ?_
                    refine g_dup hC dX12_lookAt_195 rfl ?_
                    refine g_get hC 0 12 14 inX12 m3_222 dX12_lookAt_196 rfl rfl (by decide) rfl ?_
                    refine g_iload_n hC dX12_lookAt_199 rfl 0 rfl ?_
                    refine g_if_eqB (tgt := 207) hC dX12_lookAt_200 (by decide) (fun h_200 => ?_) (fun h_200 => ?_)
                    · refine g_iconst (v := (nI 0)) hC dX12_lookAt_207 (by decide) ?_
                      refine g_iaddN hC dX12_lookAt_208 ?_
                      refine g_put hC 0 12 14 [(q 0, .inr (12, oM q ab be fe fc mo (nI L) (nI (tA T L i)) (nI (e + 0)) (nI s0) (nI 0))), (q 7, .inl (E.2.1 0, 150, .inl b))] .int inX12 tyX12_ok nmX12 m3_222 dX12_lookAt_209 rfl rfl (by decide) rfl (by decide +kernel) rfl rfl (Nat.le_of_ble_eq_true rfl) rfl ?_
                      refine g_goto (tgt := 136) hC dX12_lookAt_212 (by decide) ?_
                      refine g_lv (lv' := [(3, .int (bI (decide (48 ≤ (T (tA T L i + e))) && decide ((T (tA T L i + e)) ≤ 57)))), (0, .ref (q 0))]) [0, 2] rfl ?_
                      exact ih_136 (decide (48 ≤ (T (tA T L i + e))) && decide ((T (tA T L i + e)) ≤ 57)) (e + 0) (by omega) (by omega) (fun h => by rw [h_200] at h; cases h) (fun _ => by rw [(hg1 h_137).2, ew_stop (Or.inr (by have q := (fg_so (c := T (tA T L i + e))).symm.trans h_200; have q2 := of_decide_eq_false q; simp only [decide_eq_false_iff_not]; omega))]; rfl) (hrun) (by rw [if_pos h_137] at hm_136; rw [if_neg (by rw [h_200]; decide)]; omega)
                    · refine g_iconst (v := (nI 1)) hC dX12_lookAt_203 (by decide) ?_
                      refine g_goto (tgt := 208) hC dX12_lookAt_204 (by decide) ?_
                      refine g_iaddN hC dX12_lookAt_208 ?_
                      refine g_put hC 0 12 14 [(q 0, .inr (12, oM q ab be fe fc mo (nI L) (nI (tA T L i)) (nI (e + 1)) (nI s0) (nI 0))), (q 7, .inl (E.2.1 0, 150, .inl b))] .int inX12 tyX12_ok nmX12 m3_222 dX12_lookAt_209 rfl rfl (by decide) rfl (by decide +kernel) rfl rfl (Nat.le_of_ble_eq_true rfl) rfl ?_
                      refine g_goto (tgt := 136) hC dX12_lookAt_212 (by decide) ?_
                      refine g_lv (lv' := [(3, .int (bI (decide (48 ≤ (T (tA T L i + e))) && decide ((T (tA T L i + e)) ≤ 57)))), (0, .ref (q 0))]) [0, 2] rfl ?_
                      exact ih_136 (decide (48 ≤ (T (tA T L i + e))) && decide ((T (tA T L i + e)) ≤ 57)) (e + 1) (by omega) (by omega) (fun _ => ⟨hs3, by rw [(hg1 h_137).2, ew_go h_153 (by have q := (fg_so (c := T (tA T L i + e))).symm.trans h_200; have q2 := of_decide_eq_true q; simp only [decide_eq_true_eq]; omega)]; rfl⟩) (fun h => by rw [h_200] at h; cases h) (fun j hj => by by_cases q : j < e; exact hrun j q; have q1 := (fg_so (c := T (tA T L i + e))).symm.trans h_200; have q2 := of_decide_eq_true q1; rw [show j = e by omega]; omega) (by rw [if_pos h_137] at hm_136; rw [if_pos h_200]; omega)
                  · refine g_iload hC dX12_lookAt_180 0 rfl ?_
                    refine g_callS hC (f_X12_isSmall (kl K) E (T (tA T L i + e)) (by omega)) wX12_isSmall m5_13 dX12_lookAt_182 [] [(q 0, .inr (12, oM q ab be fe fc mo (nI L) (nI (tA T L i)) (nI e) (nI s0) (nI 0))), (q 7, .inl (E.2.1 0, 150, .inl b))] (by decide) rfl (Nat.le_of_ble_eq_true rfl) rfl rfl rfl rfl rfl ?_
                    refine g_goto (tgt := 193) hC dX12_lookAt_185 (by decide) ?_
                    refine g_istore_n hC [(3, .int (bI (decide (97 ≤ (T (tA T L i + e))) && decide ((T (tA T L i + e)) ≤ 122)))), (4, .int (nI (T (tA T L i + e)))), (0, .ref (q 0))] dX12_lookAt_193 rfl (by decide) rfl ?_
                    refine g_aload_n hC dX12_lookAt_194 rfl 2 rfl ?_
                    refine g_dup hC dX12_lookAt_195 rfl ?_
                    refine g_get hC 0 12 14 inX12 m3_222 dX12_lookAt_196 rfl rfl (by decide) rfl ?_
                    refine g_iload_n hC dX12_lookAt_199 rfl 0 rfl ?_
                    refine g_if_eqB (tgt := 207) hC dX12_lookAt_200 (by decide) (fun h_200 => ?_) (fun h_200 => ?_)
                    · refine g_iconst (v := (nI 0)) hC dX12_lookAt_207 (by decide) ?_
                      refine g_iaddN hC dX12_lookAt_208 ?_
                      refine g_put hC 0 12 14 [(q 0, .inr (12, oM q ab be fe fc mo (nI L) (nI (tA T L i)) (nI (e + 0)) (nI s0) (nI 0))), (q 7, .inl (E.2.1 0, 150, .inl b))] .int inX12 tyX12_ok nmX12 m3_222 dX12_lookAt_209 rfl rfl (by decide) rfl (by decide +kernel) rfl rfl (Nat.le_of_ble_eq_true rfl) rfl ?_
                      refine g_goto (tgt := 136) hC dX12_lookAt_212 (by decide) ?_
                      refine g_lv (lv' := [(3, .int (bI (decide (97 ≤ (T (tA T L i + e))) && decide ((T (tA T L i + e)) ≤ 122)))), (0, .ref (q 0))]) [0, 2] rfl ?_
                      exact ih_136 (decide (97 ≤ (T (tA T L i + e))) && decide ((T (tA T L i + e)) ≤ 122)) (e + 0) (by omega) (by omega) (fun h => by rw [h_200] at h; cases h) (fun _ => by rw [(hg1 h_137).2, ew_stop (Or.inr (by have q := (sm_so (c := T (tA T L i + e))).symm.trans h_200; have q2 := of_decide_eq_false q; simp only [decide_eq_false_iff_not]; omega))]; rfl) (hrun) (by rw [if_pos h_137] at hm_136; rw [if_neg (by rw [h_200]; decide)]; omega)
                    · refine g_iconst (v := (nI 1)) hC dX12_lookAt_203 (by decide) ?_
                      refine g_goto (tgt := 208) hC dX12_lookAt_204 (by decide) ?_
                      refine g_iaddN hC dX12_lookAt_208 ?_
                      refine g_put hC 0 12 14 [(q 0, .inr (12, oM q ab be fe fc mo (nI L) (nI (tA T L i)) (nI (e + 1)) (nI s0) (nI 0))), (q 7, .inl (E.2.1 0, 150, .inl b))] .int inX12 tyX12_ok nmX12 m3_222 dX12_lookAt_209 rfl rfl (by decide) rfl (by decide +kernel) rfl rfl (Nat.le_of_ble_eq_true rfl) rfl ?_
                      refine g_goto (tgt := 136) hC dX12_lookAt_212 (by decide) ?_
                      refine g_lv (lv' := [(3, .int (bI (decide (97 ≤ (T (tA T L i + e))) && decide ((T (tA T L i + e)) ≤ 122)))), (0, .ref (q 0))]) [0, 2] rfl ?_
                      exact ih_136 (decide (97 ≤ (T (tA T L i + e))) && decide ((T (tA T L i + e)) ≤ 122)) (e + 1) (by omega) (by omega) (fun _ => ⟨hs3, by rw [(hg1 h_137).2, ew_go h_153 (by have q := (sm_so (c := T (tA T L i + e))).symm.trans h_200; have q2 := of_decide_eq_true q; simp only [decide_eq_true_eq]; omega)]; rfl⟩) (fun h => by rw [h_200] at h; cases h) (fun j hj => by by_cases q : j < e; exact hrun j q; have q1 := (sm_so (c := T (tA T L i + e))).symm.trans h_200; have q2 := of_decide_eq_true q1; rw [show j = e by omega]; omega) (by rw [if_pos h_137] at hm_136; rw [if_pos h_200]; omega)
          refine g_lv (lv' := [(3, .int (nI 0)), (0, .ref (q 0))]) [0, 2] rfl ?_
          exact L_136 ((2 * (L - (tA T L i + 1)) + (if false then 1 else 0)) + 1) false 1 (by omega) (by omega) (fun h => by cases h) (fun _ => by unfold tE; rw [if_pos hlt, if_neg (by omega)]) (fun j hj => by rw [show j = 0 by omega]; exact hs0.symm) (Nat.lt_succ_self _)
        · refine g_iconst (v := (nI 1)) hC dX12_lookAt_130 (by decide) ?_
          refine g_goto (tgt := 135) hC dX12_lookAt_131 (by decide) ?_
          refine g_istore_n hC [(3, .int (nI 1)), (2, .int (nI (T (tA T L i)))), (0, .ref (q 0)), (1, .int (nI i))] dX12_lookAt_135 rfl (by decide) rfl ?_
          have L_136 : ∀ (fu : Nat) (gb : Bool) (e : Nat) (he1 : 1 ≤ e) (heL : tA T L i + e ≤ L) (hg1 : gb = true → s0 < 3 ∧ tE T L i = ew (fun j => decide (so (T j) = so (T (tA T L i)))) L (tA T L i + e)) (hg2 : gb = false → tE T L i = tA T L i + e) (hrun : ∀ j, j < e → so (T (tA T L i + j)) = s0), 2 * (L - (tA T L i + e)) + (if gb then 1 else 0) < fu → G K E 5 [(q 0, .inr (12, oM q ab be fe fc mo (nI L) (nI (tA T L i)) (nI e) (nI s0) (nI 0))), (q 7, .inl (E.2.1 0, 150, .inl b))] [(3, .int (bI gb)), (0, .ref (q 0))] 136 [] := by
            intro fu
            induction fu with
            | zero => intro gb e he1 heL hg1 hg2 hrun hm_136; exact absurd hm_136 (Nat.not_lt_zero _)
            | succ fu ih_136 =>
              intro gb e he1 heL hg1 hg2 hrun hm_136
              refine g_iload_n hC dX12_lookAt_136 rfl 0 rfl ?_
              refine g_if_eqB (tgt := 215) hC dX12_lookAt_137 (by decide) (fun h_137 => ?_) (fun h_137 => ?_)
              · refine g_lv (lv' := [(0, .ref (q 0))]) [1] rfl ?_
                exact J_215 e (by omega) (by omega) (hg2 h_137) (hrun)
              · refine g_aload_n hC dX12_lookAt_140 rfl 1 rfl ?_
                refine g_get hC 0 12 13 inX12 m3_221 dX12_lookAt_141 rfl rfl (by decide) rfl ?_
                refine g_aload_n hC dX12_lookAt_144 rfl 1 rfl ?_
                refine g_get hC 0 12 14 inX12 m3_222 dX12_lookAt_145 rfl rfl (by decide) rfl ?_
                refine g_iaddN hC dX12_lookAt_148 ?_
                refine g_aload_n hC dX12_lookAt_149 rfl 1 rfl ?_
                refine g_get hC 0 12 12 inX12 m3_220 dX12_lookAt_150 rfl rfl (by decide) rfl ?_
                refine g_icmp_geN (tgt := 215) hC dX12_lookAt_153 (by decide) (by omega) (by omega) (fun h_153 => ?_) (fun h_153 => ?_)
                · refine g_lv (lv' := [(0, .ref (q 0))]) [1] rfl ?_
                  exact J_215 e (by omega) (by omega) (by rw [(hg1 h_137).2, ew_stop (Or.inl h_153)]) (hrun)
                · have hTe := (hT _ h_153).2
                  have hs3 := (hg1 h_137).1
                  refine g_aload_n hC dX12_lookAt_156 rfl 1 rfl ?_
                  refine g_get hC 0 12 11 inX12 m3_219 dX12_lookAt_157 rfl rfl (by decide) rfl ?_
                  refine g_aload_n hC dX12_lookAt_160 rfl 1 rfl ?_
                  refine g_get hC 0 12 13 inX12 m3_221 dX12_lookAt_161 rfl rfl (by decide) rfl ?_
                  refine g_aload_n hC dX12_lookAt_164 rfl 1 rfl ?_
                  refine g_get hC 0 12 14 inX12 m3_222 dX12_lookAt_165 rfl rfl (by decide) rfl ?_
                  refine g_iaddN hC dX12_lookAt_168 ?_
                  refine g_ialdN hC 1 dX12_lookAt_169 rfl (by decide) (by omega) ?_
                  refine g_val (v' := .int (nI (T (tA T L i + e)))) (by rw [(hT _ (by omega)).1]) ?_
                  refine g_istore hC [(4, .int (nI (T (tA T L i + e)))), (3, .int (bI gb)), (0, .ref (q 0))] dX12_lookAt_170 (by decide) rfl ?_
                  refine g_aload_n hC dX12_lookAt_172 rfl 2 rfl ?_
                  refine g_get hC 0 12 15 inX12 m3_223 dX12_lookAt_173 rfl rfl (by decide) rfl ?_
                  refine g_iconst (v := (nI 1)) hC dX12_lookAt_176 (by decide) ?_
                  refine g_icmp_neN (tgt := 188) hC dX12_lookAt_177 (by decide) (by omega) (by omega) (fun h_177 => ?_) (fun h_177 => ?_)
                  · refine g_iload hC dX12_lookAt_188 0 rfl ?_
                    refine g_callS hC (f_X12_isFigure (kl K) E (T (tA T L i + e)) (by omega)) wX12_isFigure m5_18 dX12_lookAt_190 [] [(q 0, .inr (12, oM q ab be fe fc mo (nI L) (nI (tA T L i)) (nI e) (nI s0) (nI 0))), (q 7, .inl (E.2.1 0, 150, .inl b))] (by decide) rfl (Nat.le_of_ble_eq_true rfl) rfl rfl rfl rfl rfl ?_
                    refine g_istore_n hC [(3, .int (bI (decide (48 ≤ (T (tA T L i + e))) && decide ((T (tA T L i + e)) ≤ 57)))), (4, .int (nI (T (tA T L i + e)))), (0, .ref (q 0))] dX12_lookAt_193 rfl (by decide) rfl ?_
                    refine g_aload_n hC dX12_lookAt_194 rfl 2 rfl ?_
                    refine g_dup hC dX12_lookAt_195 rfl ?_
                    refine g_get hC 0 12 14 inX12 m3_222 dX12_lookAt_196 rfl rfl (by decide) rfl ?_
                    refine g_iload_n hC dX12_lookAt_199 rfl 0 rfl ?_
                    refine g_if_eqB (tgt := 207) hC dX12_lookAt_200 (by decide) (fun h_200 => ?_) (fun h_200 => ?_)
                    · refine g_iconst (v := (nI 0)) hC dX12_lookAt_207 (by decide) ?_
                      refine g_iaddN hC dX12_lookAt_208 ?_
                      refine g_put hC 0 12 14 [(q 0, .inr (12, oM q ab be fe fc mo (nI L) (nI (tA T L i)) (nI (e + 0)) (nI s0) (nI 0))), (q 7, .inl (E.2.1 0, 150, .inl b))] .int inX12 tyX12_ok nmX12 m3_222 dX12_lookAt_209 rfl rfl (by decide) rfl (by decide +kernel) rfl rfl (Nat.le_of_ble_eq_true rfl) rfl ?_
                      refine g_goto (tgt := 136) hC dX12_lookAt_212 (by decide) ?_
                      refine g_lv (lv' := [(3, .int (bI (decide (48 ≤ (T (tA T L i + e))) && decide ((T (tA T L i + e)) ≤ 57)))), (0, .ref (q 0))]) [0, 2] rfl ?_
                      exact ih_136 (decide (48 ≤ (T (tA T L i + e))) && decide ((T (tA T L i + e)) ≤ 57)) (e + 0) (by omega) (by omega) (fun h => by rw [h_200] at h; cases h) (fun _ => by rw [(hg1 h_137).2, ew_stop (Or.inr (by have q := (fg_so (c := T (tA T L i + e))).symm.trans h_200; have q2 := of_decide_eq_false q; simp only [decide_eq_false_iff_not]; omega))]; rfl) (hrun) (by rw [if_pos h_137] at hm_136; rw [if_neg (by rw [h_200]; decide)]; omega)
                    · refine g_iconst (v := (nI 1)) hC dX12_lookAt_203 (by decide) ?_
                      refine g_goto (tgt := 208) hC dX12_lookAt_204 (by decide) ?_
                      refine g_iaddN hC dX12_lookAt_208 ?_
                      refine g_put hC 0 12 14 [(q 0, .inr (12, oM q ab be fe fc mo (nI L) (nI (tA T L i)) (nI (e + 1)) (nI s0) (nI 0))), (q 7, .inl (E.2.1 0, 150, .inl b))] .int inX12 tyX12_ok nmX12 m3_222 dX12_lookAt_209 rfl rfl (by decide) rfl (by decide +kernel) rfl rfl (Nat.le_of_ble_eq_true rfl) rfl ?_
                      refine g_goto (tgt := 136) hC dX12_lookAt_212 (by decide) ?_
                      refine g_lv (lv' := [(3, .int (bI (decide (48 ≤ (T (tA T L i + e))) && decide ((T (tA T L i + e)) ≤ 57)))), (0, .ref (q 0))]) [0, 2] rfl ?_
                      exact ih_136 (decide (48 ≤ (T (tA T L i + e))) && decide ((T (tA T L i + e)) ≤ 57)) (e + 1) (by omega) (by omega) (fun _ => ⟨hs3, by rw [(hg1 h_137).2, ew_go h_153 (by have q := (fg_so (c := T (tA T L i + e))).symm.trans h_200; have q2 := of_decide_eq_true q; simp only [decide_eq_true_eq]; omega)]; rfl⟩) (fun h => by rw [h_200] at h; cases h) (fun j hj => by by_cases q : j < e; exact hrun j q; have q1 := (fg_so (c := T (tA T L i + e))).symm.trans h_200; have q2 := of_decide_eq_true q1; rw [show j = e by omega]; omega) (by rw [if_pos h_137] at hm_136; rw [if_pos h_200]; omega)
                  · refine g_iload hC dX12_lookAt_180 0 rfl ?_
                    refine g_callS hC (f_X12_isSmall (kl K) E (T (tA T L i + e)) (by omega)) wX12_isSmall m5_13 dX12_lookAt_182 [] [(q 0, .inr (12, oM q ab be fe fc mo (nI L) (nI (tA T L i)) (nI e) (nI s0) (nI 0))), (q 7, .inl (E.2.1 0, 150, .inl b))] (by decide) rfl (Nat.le_of_ble_eq_true rfl) rfl rfl rfl rfl rfl ?_
                    refine g_goto (tgt := 193) hC dX12_lookAt_185 (by decide) ?_
                    refine g_istore_n hC [(3, .int (bI (decide (97 ≤ (T (tA T L i + e))) && decide ((T (tA T L i + e)) ≤ 122)))), (4, .int (nI (T (tA T L i + e)))), (0, .ref (q 0))] dX12_lookAt_193 rfl (by decide) rfl ?_
                    refine g_aload_n hC dX12_lookAt_194 rfl 2 rfl ?_
                    refine g_dup hC dX12_lookAt_195 rfl ?_
                    refine g_get hC 0 12 14 inX12 m3_222 dX12_lookAt_196 rfl rfl (by decide) rfl ?_
                    refine g_iload_n hC dX12_lookAt_199 rfl 0 rfl ?_
                    refine g_if_eqB (tgt := 207) hC dX12_lookAt_200 (by decide) (fun h_200 => ?_) (fun h_200 => ?_)
                    · refine g_iconst (v := (nI 0)) hC dX12_lookAt_207 (by decide) ?_
                      refine g_iaddN hC dX12_lookAt_208 ?_
                      refine g_put hC 0 12 14 [(q 0, .inr (12, oM q ab be fe fc mo (nI L) (nI (tA T L i)) (nI (e + 0)) (nI s0) (nI 0))), (q 7, .inl (E.2.1 0, 150, .inl b))] .int inX12 tyX12_ok nmX12 m3_222 dX12_lookAt_209 rfl rfl (by decide) rfl (by decide +kernel) rfl rfl (Nat.le_of_ble_eq_true rfl) rfl ?_
                      refine g_goto (tgt := 136) hC dX12_lookAt_212 (by decide) ?_
                      refine g_lv (lv' := [(3, .int (bI (decide (97 ≤ (T (tA T L i + e))) && decide ((T (tA T L i + e)) ≤ 122)))), (0, .ref (q 0))]) [0, 2] rfl ?_
                      exact ih_136 (decide (97 ≤ (T (tA T L i + e))) && decide ((T (tA T L i + e)) ≤ 122)) (e + 0) (by omega) (by omega) (fun h => by rw [h_200] at h; cases h) (fun _ => by rw [(hg1 h_137).2, ew_stop (Or.inr (by have q := (sm_so (c := T (tA T L i + e))).symm.trans h_200; have q2 := of_decide_eq_false q; simp only [decide_eq_false_iff_not]; omega))]; rfl) (hrun) (by rw [if_pos h_137] at hm_136; rw [if_neg (by rw [h_200]; decide)]; omega)
                    · refine g_iconst (v := (nI 1)) hC dX12_lookAt_203 (by decide) ?_
                      refine g_goto (tgt := 208) hC dX12_lookAt_204 (by decide) ?_
                      refine g_iaddN hC dX12_lookAt_208 ?_
                      refine g_put hC 0 12 14 [(q 0, .inr (12, oM q ab be fe fc mo (nI L) (nI (tA T L i)) (nI (e + 1)) (nI s0) (nI 0))), (q 7, .inl (E.2.1 0, 150, .inl b))] .int inX12 tyX12_ok nmX12 m3_222 dX12_lookAt_209 rfl rfl (by decide) rfl (by decide +kernel) rfl rfl (Nat.le_of_ble_eq_true rfl) rfl ?_
                      refine g_goto (tgt := 136) hC dX12_lookAt_212 (by decide) ?_
                      refine g_lv (lv' := [(3, .int (bI (decide (97 ≤ (T (tA T L i + e))) && decide ((T (tA T L i + e)) ≤ 122)))), (0, .ref (q 0))]) [0, 2] rfl ?_
                      exact ih_136 (decide (97 ≤ (T (tA T L i + e))) && decide ((T (tA T L i + e)) ≤ 122)) (e + 1) (by omega) (by omega) (fun _ => ⟨hs3, by rw [(hg1 h_137).2, ew_go h_153 (by have q := (sm_so (c := T (tA T L i + e))).symm.trans h_200; have q2 := of_decide_eq_true q; simp only [decide_eq_true_eq]; omega)]; rfl⟩) (fun h => by rw [h_200] at h; cases h) (fun j hj => by by_cases q : j < e; exact hrun j q; have q1 := (sm_so (c := T (tA T L i + e))).symm.trans h_200; have q2 := of_decide_eq_true q1; rw [show j = e by omega]; omega) (by rw [if_pos h_137] at hm_136; rw [if_pos h_200]; omega)
          refine g_lv (lv' := [(3, .int (nI 1)), (0, .ref (q 0))]) [0, 2] rfl ?_
          exact L_136 ((2 * (L - (tA T L i + 1)) + (if true then 1 else 0)) + 1) true 1 (by omega) (by omega) (fun _ => ⟨h_127, by unfold tE; rw [if_pos hlt, if_pos (by omega)]⟩) (fun h => by cases h) (fun j hj => by rw [show j = 0 by omega]; exact hs0.symm) (Nat.lt_succ_self _)
      refine g_aload_n hC dX12_lookAt_80 rfl 1 rfl ?_
      refine g_iload_n hC dX12_lookAt_81 rfl 0 rfl ?_
      refine g_callS hC (f_X12_isSmall (kl K) E (T (tA T L i)) (by omega)) wX12_isSmall m5_13 dX12_lookAt_82 [] [(q 0, .inr (12, oM q ab be fe fc mo (nI L) (nI (tA T L i)) (nI 0) (nI 0) (nI 0))), (q 7, .inl (E.2.1 0, 150, .inl b))] (by decide) rfl (Nat.le_of_ble_eq_true rfl) rfl rfl rfl rfl rfl ?_
      refine g_if_eqB (tgt := 92) hC dX12_lookAt_85 (by decide) (fun h_85 => ?_) (fun h_85 => ?_)
      · refine g_iload_n hC dX12_lookAt_92 rfl 0 rfl ?_
        refine g_callS hC (f_X12_isFigure (kl K) E (T (tA T L i)) (by omega)) wX12_isFigure m5_18 dX12_lookAt_93 [] [(q 0, .inr (12, oM q ab be fe fc mo (nI L) (nI (tA T L i)) (nI 0) (nI 0) (nI 0))), (q 7, .inl (E.2.1 0, 150, .inl b))] (by decide) rfl (Nat.le_of_ble_eq_true rfl) rfl rfl rfl rfl rfl ?_
        refine g_if_eqB (tgt := 103) hC dX12_lookAt_96 (by decide) (fun h_96 => ?_) (fun h_96 => ?_)
        · refine g_iload_n hC dX12_lookAt_103 rfl 0 rfl ?_
          refine g_bipush (v := (nI 59)) hC dX12_lookAt_104 (by decide) ?_
          refine g_icmp_neN (tgt := 113) hC dX12_lookAt_106 (by decide) (by omega) (by omega) (fun h_106 => ?_) (fun h_106 => ?_)
          · refine g_iconst (v := (nI 4)) hC dX12_lookAt_113 (by decide) ?_
            refine g_lv (lv' := [(2, .int (nI (T (tA T L i)))), (0, .ref (q 0)), (1, .int (nI i))]) [0, 1, 2] rfl ?_
            exact J_114 4 (by have e1 := (sm_so (c := T (tA T L i))).symm.trans h_85; have e2 := (fg_so (c := T (tA T L i))).symm.trans h_96; exact so_4 (by simpa using e1) (by simpa using e2) h_106)
          · refine g_iconst (v := (nI 3)) hC dX12_lookAt_109 (by decide) ?_
            refine g_goto (tgt := 114) hC dX12_lookAt_110 (by decide) ?_
            refine g_lv (lv' := [(2, .int (nI (T (tA T L i)))), (0, .ref (q 0)), (1, .int (nI i))]) [0, 1, 2] rfl ?_
            exact J_114 3 (by rw [h_106]; decide)
        · refine g_iconst (v := (nI 2)) hC dX12_lookAt_99 (by decide) ?_
          refine g_goto (tgt := 114) hC dX12_lookAt_100 (by decide) ?_
          refine g_lv (lv' := [(2, .int (nI (T (tA T L i)))), (0, .ref (q 0)), (1, .int (nI i))]) [0, 1, 2] rfl ?_
          exact J_114 2 (by have e := (fg_so (c := T (tA T L i))).symm.trans h_96; simp at e; rw [e])
      · refine g_iconst (v := (nI 1)) hC dX12_lookAt_88 (by decide) ?_
        refine g_goto (tgt := 114) hC dX12_lookAt_89 (by decide) ?_
        refine g_lv (lv' := [(2, .int (nI (T (tA T L i)))), (0, .ref (q 0)), (1, .int (nI i))]) [0, 1, 2] rfl ?_
        exact J_114 1 (by have e := (sm_so (c := T (tA T L i))).symm.trans h_85; simp at e; rw [e])
    · exact g_ws (by first | rfl | (simp only [tE, tY, tK, tV, if_neg (show ¬ tA T L i < L by omega), Nat.sub_self]; rfl)) (hR _ _ dX12_lookAt_69)
  refine g_aload_n hC dX12_lookAt_0 rfl 0 rfl ?_
  refine g_iload_n hC dX12_lookAt_1 rfl 1 rfl ?_
  refine g_put hC 0 12 13 [(q 0, .inr (12, oM q ab be fe fc mo (nI L) (nI i) tl tkn va)), (q 7, .inl (E.2.1 0, 150, .inl b))] .int inX12 tyX12_ok nmX12 m3_221 dX12_lookAt_2 rfl rfl (by decide) rfl (by decide +kernel) rfl rfl (Nat.le_of_ble_eq_true rfl) rfl ?_
  have L_5 : ∀ (fu : Nat) (j : Nat) (hjL : j ≤ L) (hj : tA T L i = ew (fun j => decide (T j = 32)) L j), L - j < fu → G K E 5 [(q 0, .inr (12, oM q ab be fe fc mo (nI L) (nI j) tl tkn va)), (q 7, .inl (E.2.1 0, 150, .inl b))] [(0, .ref (q 0)), (1, .int (nI i))] 5 [] := by
    intro fu
    induction fu with
    | zero => intro j hjL hj hm_5; exact absurd hm_5 (Nat.not_lt_zero _)
    | succ fu ih_5 =>
      intro j hjL hj hm_5
      refine g_aload_n hC dX12_lookAt_5 rfl 0 rfl ?_
      refine g_get hC 0 12 13 inX12 m3_221 dX12_lookAt_6 rfl rfl (by decide) rfl ?_
      refine g_aload_n hC dX12_lookAt_9 rfl 0 rfl ?_
      refine g_get hC 0 12 12 inX12 m3_220 dX12_lookAt_10 rfl rfl (by decide) rfl ?_
      refine g_icmp_geN (tgt := 43) hC dX12_lookAt_13 (by decide) (by omega) (by omega) (fun h_13 => ?_) (fun h_13 => ?_)
      · refine g_lv (lv' := [(0, .ref (q 0)), (1, .int (nI i))]) [0, 1] rfl ?_
        refine g_ws (ws' := [(q 0, .inr (12, oM q ab be fe fc mo (nI L) (nI (tA T L i)) tl tkn va)), (q 7, .inl (E.2.1 0, 150, .inl b))]) (by rw [hj, ew_stop (Or.inl h_13)]) ?_
        exact J_43
      · have hTj := (hT j h_13).2
        refine g_aload_n hC dX12_lookAt_16 rfl 0 rfl ?_
        refine g_get hC 0 12 11 inX12 m3_219 dX12_lookAt_17 rfl rfl (by decide) rfl ?_
        refine g_aload_n hC dX12_lookAt_20 rfl 0 rfl ?_
        refine g_get hC 0 12 13 inX12 m3_221 dX12_lookAt_21 rfl rfl (by decide) rfl ?_
        refine g_ialdN hC 1 dX12_lookAt_24 rfl (by decide) (by omega) ?_
        refine g_val (v' := .int (nI (T j))) (by rw [(hT j (by omega)).1]) ?_
        refine g_bipush (v := (nI 32)) hC dX12_lookAt_25 (by decide) ?_
        refine g_icmp_neN (tgt := 43) hC dX12_lookAt_27 (by decide) (by omega) (by omega) (fun h_27 => ?_) (fun h_27 => ?_)
        · refine g_lv (lv' := [(0, .ref (q 0)), (1, .int (nI i))]) [0, 1] rfl ?_
          refine g_ws (ws' := [(q 0, .inr (12, oM q ab be fe fc mo (nI L) (nI (tA T L i)) tl tkn va)), (q 7, .inl (E.2.1 0, 150, .inl b))]) (by rw [hj, ew_stop (Or.inr (by simp [h_27]))]) ?_
          exact J_43
        · refine g_aload_n hC dX12_lookAt_30 rfl 0 rfl ?_
          refine g_dup hC dX12_lookAt_31 rfl ?_
          refine g_get hC 0 12 13 inX12 m3_221 dX12_lookAt_32 rfl rfl (by decide) rfl ?_
          refine g_iconst (v := (nI 1)) hC dX12_lookAt_35 (by decide) ?_
          refine g_iaddN hC dX12_lookAt_36 ?_
          refine g_put hC 0 12 13 [(q 0, .inr (12, oM q ab be fe fc mo (nI L) (nI (j + 1)) tl tkn va)), (q 7, .inl (E.2.1 0, 150, .inl b))] .int inX12 tyX12_ok nmX12 m3_221 dX12_lookAt_37 rfl rfl (by decide) rfl (by decide +kernel) rfl rfl (Nat.le_of_ble_eq_true rfl) rfl ?_
          refine g_goto (tgt := 5) hC dX12_lookAt_40 (by decide) ?_
          refine g_lv (lv' := [(0, .ref (q 0)), (1, .int (nI i))]) [0, 1] rfl ?_
          exact ih_5 (j + 1) (by omega) (by rw [hj, ew_go h_13 (by simp [h_27])]) (by omega)
  refine g_lv (lv' := [(0, .ref (q 0)), (1, .int (nI i))]) [0, 1] rfl ?_
  exact L_5 ((L - i) + 1) i (hi) (rfl) (Nat.lt_succ_self _)
