set_option maxHeartbeats 600000 in
set_option maxRecDepth 100000 in
theorem f_J0_coder_7d493 (l : Launch) (E : Ew) (i : Nat) (hi : i < 4) : Fn l E 0 yJ0_coder_7d493 cJ0_coder_7d493 1 (some .byte) [.ref (E.2.2.1 i)] [] (some (.int (nI 0))) [] := by
  refine fn_Z (by decide) (Nat.le_of_ble_eq_true rfl) rfl (by decide +kernel) ?_
  intro K hC hR
  show G K E 1 [] [(0, .ref (E.2.2.1 i))] 0 []
  refine g_gst hC m2_75 dJ0_coder_7d493_0 ?_
  refine g_if_eqN (tgt := 13) hC dJ0_coder_7d493_3 (by decide) (by omega) (fun h_3 => ?_) (fun h_3 => ?_)
  · omega
  · refine g_aload_n hC dJ0_coder_7d493_6 rfl 0 rfl ?_
    refine g_strC hC (hi) m5_94 dJ0_coder_7d493_7 ?_
    refine g_goto (tgt := 14) hC dJ0_coder_7d493_10 (by decide) ?_
    exact g_val (rfl) (g_ws (rfl) (hR _ _ dJ0_coder_7d493_14))
set_option maxHeartbeats 600000 in
set_option maxRecDepth 100000 in
theorem f_J0_isLatin1_aae02 (l : Launch) (E : Ew) (i : Nat) (hi : i < 4) : Fn l E 0 yJ0_isLatin1_aae02 cJ0_isLatin1_aae02 1 (some .boolean) [.ref (E.2.2.1 i)] [] (some (.int (bI true))) [] := by
  refine fn_Z (by decide) (Nat.le_of_ble_eq_true rfl) rfl (nar_bI _) ?_
  intro K hC hR
  show G K E 1 [] [(0, .ref (E.2.2.1 i))] 0 []
  refine g_gst hC m2_75 dJ0_isLatin1_aae02_0 ?_
  refine g_if_eqN (tgt := 17) hC dJ0_isLatin1_aae02_3 (by decide) (by omega) (fun h_3 => ?_) (fun h_3 => ?_)
  · omega
  · refine g_aload_n hC dJ0_isLatin1_aae02_6 rfl 0 rfl ?_
    refine g_strC hC (hi) m5_94 dJ0_isLatin1_aae02_7 ?_
    refine g_if_neN (tgt := 17) hC dJ0_isLatin1_aae02_10 (by decide) (by omega) (fun h_10 => ?_) (fun h_10 => ?_)
    · omega
    · refine g_iconst (v := (nI 1)) hC dJ0_isLatin1_aae02_13 (by decide) ?_
      refine g_goto (tgt := 18) hC dJ0_isLatin1_aae02_14 (by decide) ?_
      exact g_val (rfl) (g_ws (rfl) (hR _ _ dJ0_isLatin1_aae02_18))
set_option maxHeartbeats 600000 in
set_option maxRecDepth 100000 in
theorem f_J0_length_8abf5 (l : Launch) (E : Ew) (i : Nat) (hi : i < 4) : Fn l E 1 yJ0_length_8abf5 cJ0_length_8abf5 1 (some .int) [.ref (E.2.2.1 i)] [] (some (.int (nI (kL.getD i 0)))) [] := by
  refine fn_I (by decide) (Nat.le_of_ble_eq_true rfl) rfl ?_
  intro K hC hR
  show G K E 1 [] [(0, .ref (E.2.2.1 i))] 0 []
  have hl7 := kL_lt i hi
  refine g_aload_n hC dJ0_length_8abf5_0 rfl 0 rfl ?_
  refine g_strV hC (hi) m5_93 dJ0_length_8abf5_1 ?_
  refine g_strL hC hi dJ0_length_8abf5_4 ?_
  refine g_aload_n hC dJ0_length_8abf5_5 rfl 0 rfl ?_
  refine g_callVS hC (hi) (f_J0_coder_7d493 (kl K) E i (hi)) wJ0_coder_7d493 rfl m2_71 dJ0_length_8abf5_6 [] [] (by decide) rfl (Nat.le_of_ble_eq_true rfl) rfl rfl rfl rfl rfl ?_
  refine g_ishr hC dJ0_length_8abf5_9 ?_
  refine g_val (v' := .int (nI (kL.getD i 0))) (by rw [shr_N (by omega) (by decide), Nat.pow_zero, Nat.div_one]) ?_
  exact g_val (rfl) (g_ws (rfl) (hR _ _ dJ0_length_8abf5_10))
set_option maxHeartbeats 600000 in
set_option maxRecDepth 100000 in
theorem f_J3_checkIndex_8e157 (l : Launch) (E : Ew) (j : Nat) (m : Nat) (t : Nat) (hj : j < m) (hm : m < 2147483648) : Fn l E 0 yJ3_checkIndex_8e157 cJ3_checkIndex_8e157 3 (some .int) [.int (nI j), .int (nI m), .ref t] [] (some (.int (nI j))) [] := by
  refine fn_I (by decide) (Nat.le_of_ble_eq_true rfl) rfl ?_
  intro K hC hR
  show G K E 3 [] [(0, .int (nI j)), (1, .int (nI m)), (2, .ref t)] 0 []
  refine g_iload_n hC dJ3_checkIndex_8e157_0 rfl 0 rfl ?_
  refine g_if_ltN (tgt := 9) hC dJ3_checkIndex_8e157_1 (by decide) (by omega) (fun h_1 => ?_) (fun h_1 => ?_)
  · omega
  · refine g_iload_n hC dJ3_checkIndex_8e157_4 rfl 0 rfl ?_
    refine g_iload_n hC dJ3_checkIndex_8e157_5 rfl 1 rfl ?_
    refine g_icmp_ltN (tgt := 16) hC dJ3_checkIndex_8e157_6 (by decide) (by omega) (by omega) (fun h_6 => ?_) (fun h_6 => ?_)
    · refine g_iload_n hC dJ3_checkIndex_8e157_16 rfl 0 rfl ?_
      exact g_val (rfl) (g_ws (rfl) (hR _ _ dJ3_checkIndex_8e157_17))
    · omega
set_option maxHeartbeats 600000 in
set_option maxRecDepth 100000 in
theorem f_J3_checkIndex_n (l : Launch) (E : Ew) (j : Nat) (m : Nat) (hj : j < m) (hm : m < 2147483648) : Fn l E 0 yJ3_checkIndex_8e157 cJ3_checkIndex_8e157 3 (some .int) [.int (nI j), .int (nI m), .null] [] (some (.int (nI j))) [] := by
  refine fn_I (by decide) (Nat.le_of_ble_eq_true rfl) rfl ?_
  intro K hC hR
  show G K E 3 [] [(0, .int (nI j)), (1, .int (nI m)), (2, .null)] 0 []
  refine g_iload_n hC dJ3_checkIndex_8e157_0 rfl 0 rfl ?_
  refine g_if_ltN (tgt := 9) hC dJ3_checkIndex_8e157_1 (by decide) (by omega) (fun h_1 => ?_) (fun h_1 => ?_)
  · omega
  · refine g_iload_n hC dJ3_checkIndex_8e157_4 rfl 0 rfl ?_
    refine g_iload_n hC dJ3_checkIndex_8e157_5 rfl 1 rfl ?_
    refine g_icmp_ltN (tgt := 16) hC dJ3_checkIndex_8e157_6 (by decide) (by omega) (by omega) (fun h_6 => ?_) (fun h_6 => ?_)
    · refine g_iload_n hC dJ3_checkIndex_8e157_16 rfl 0 rfl ?_
      exact g_val (rfl) (g_ws (rfl) (hR _ _ dJ3_checkIndex_8e157_17))
    · omega
set_option maxHeartbeats 600000 in
set_option maxRecDepth 100000 in
theorem f_J0_checkIndex_df160 (l : Launch) (E : Ew) (j : Nat) (m : Nat) (hj : j < m) (hm : m < 2147483648) : Fn l E 1 yJ0_checkIndex_df160 cJ0_checkIndex_df160 2 none [.int (nI j), .int (nI m)] [] none [] := by
  refine fn_V (by decide) (Nat.le_of_ble_eq_true rfl) rfl ?_
  intro K hC hR
  show G K E 2 [] [(0, .int (nI j)), (1, .int (nI m))] 0 []
  refine g_iload_n hC dJ0_checkIndex_df160_0 rfl 0 rfl ?_
  refine g_iload_n hC dJ0_checkIndex_df160_1 rfl 1 rfl ?_
  refine g_gsf hC m2_91 dJ0_checkIndex_df160_2 ?_ (fun tf => ?_)
  · refine g_callS hC (f_J3_checkIndex_n (kl K) E j m (by omega) (by omega)) wJ3_checkIndex_8e157 m2_93 dJ0_checkIndex_df160_5 [] [] (by decide) rfl (Nat.le_of_ble_eq_true rfl) rfl rfl rfl rfl rfl ?_
    refine g_pop hC dJ0_checkIndex_df160_8 rfl ?_
    exact g_ws (rfl) (hR _ _ dJ0_checkIndex_df160_9)
  · refine g_callS hC (f_J3_checkIndex_8e157 (kl K) E j m tf (by omega) (by omega)) wJ3_checkIndex_8e157 m2_93 dJ0_checkIndex_df160_5 [] [] (by decide) rfl (Nat.le_of_ble_eq_true rfl) rfl rfl rfl rfl rfl ?_
    refine g_pop hC dJ0_checkIndex_df160_8 rfl ?_
    exact g_ws (rfl) (hR _ _ dJ0_checkIndex_df160_9)
set_option maxHeartbeats 600000 in
set_option maxRecDepth 100000 in
theorem f_J1_charAt_3b067 (l : Launch) (E : Ew) (i : Nat) (j : Nat) (hi : i < 4) (hj : j < kL.getD i 0) : Fn l E 2 yJ1_charAt_3b067 cJ1_charAt_3b067 2 (some .char) [.ref (E.2.2.2 i), .int (nI j)] [] (some (.int (nI (kcc i j)))) [] := by
  refine fn_Z (by decide) (Nat.le_of_ble_eq_true rfl) rfl (nar_ch (kc_ok i hi j hj).2) ?_
  intro K hC hR
  show G K E 2 [] [(0, .ref (E.2.2.2 i)), (1, .int (nI j))] 0 []
  have hl7 := kL_lt i hi
  refine g_iload_n hC dJ1_charAt_3b067_0 rfl 1 rfl ?_
  refine g_aload_n hC dJ1_charAt_3b067_1 rfl 0 rfl ?_
  refine g_strL hC hi dJ1_charAt_3b067_2 ?_
  refine g_callS hC (f_J0_checkIndex_df160 (kl K) E j (kL.getD i 0) (hj) (by omega)) wJ0_checkIndex_df160 m2_88 dJ1_charAt_3b067_3 [] [] (by decide) rfl (Nat.le_of_ble_eq_true rfl) rfl rfl rfl rfl rfl ?_
  refine g_aload_n hC dJ1_charAt_3b067_6 rfl 0 rfl ?_
  refine g_iload_n hC dJ1_charAt_3b067_7 rfl 1 rfl ?_
  refine g_strB hC hi hj dJ1_charAt_3b067_8 ?_
  refine g_sipush (v := (nI 255)) hC dJ1_charAt_3b067_9 (by decide) ?_
  refine g_iand hC dJ1_charAt_3b067_12 ?_
  refine g_i2c hC dJ1_charAt_3b067_13 ?_
  exact g_val (by rw [(kc_ok i hi j hj).1]) (g_ws (rfl) (hR _ _ dJ1_charAt_3b067_14))
set_option maxHeartbeats 600000 in
set_option maxRecDepth 100000 in
theorem f_J0_charAt_5068e (l : Launch) (E : Ew) (i : Nat) (j : Nat) (hi : i < 4) (hj : j < kL.getD i 0) : Fn l E 3 yJ0_charAt_5068e cJ0_charAt_5068e 2 (some .char) [.ref (E.2.2.1 i), .int (nI j)] [] (some (.int (nI (kcc i j)))) [] := by
  refine fn_Z (by decide) (Nat.le_of_ble_eq_true rfl) rfl (nar_ch (kc_ok i hi j hj).2) ?_
  intro K hC hR
  show G K E 2 [] [(0, .ref (E.2.2.1 i)), (1, .int (nI j))] 0 []
  refine g_aload_n hC dJ0_charAt_5068e_0 rfl 0 rfl ?_
  refine g_callVS hC (hi) (f_J0_isLatin1_aae02 (kl K) E i (hi)) wJ0_isLatin1_aae02 rfl m2_81 dJ0_charAt_5068e_1 [] [] (by decide) rfl (Nat.le_of_ble_eq_true rfl) rfl rfl rfl rfl rfl ?_
  refine g_if_eqB (tgt := 16) hC dJ0_charAt_5068e_4 (by decide) (fun h_4 => ?_) (fun h_4 => ?_)
  · cases h_4
  · refine g_aload_n hC dJ0_charAt_5068e_7 rfl 0 rfl ?_
    refine g_strV hC (hi) m5_93 dJ0_charAt_5068e_8 ?_
    refine g_iload_n hC dJ0_charAt_5068e_11 rfl 1 rfl ?_
    refine g_callS hC (f_J1_charAt_3b067 (kl K) E i j (hi) (hj)) wJ1_charAt_3b067 m2_85 dJ0_charAt_5068e_12 [] [] (by decide) rfl (Nat.le_of_ble_eq_true rfl) rfl rfl rfl rfl rfl ?_
    exact g_val (rfl) (g_ws (rfl) (hR _ _ dJ0_charAt_5068e_15))
