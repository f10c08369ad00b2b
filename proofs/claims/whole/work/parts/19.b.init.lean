theorem wX7_init : wdI yX7_init cX7_init 1 := ⟨rfl, m1_147, m1_6, m1_148, by decide, by decide +kernel⟩
theorem wX0_init : wdI yX0_init cX0_init 1 := ⟨rfl, m1_154, m1_7, m1_155, by decide, by decide +kernel⟩
theorem wX3_init : wdI yX3_init cX3_init 1 := ⟨rfl, m1_161, m1_8, m1_162, by decide, by decide +kernel⟩
theorem wX1_init : wdI yX1_init cX1_init 1 := ⟨rfl, m1_168, m1_9, m1_169, by decide, by decide +kernel⟩
theorem wX9_init : wdI yX9_init cX9_init 1 := ⟨rfl, m1_175, m1_10, m1_176, by decide, by decide +kernel⟩
theorem wX2_init : wdI yX2_init cX2_init 1 := ⟨rfl, m1_182, m1_11, m1_183, by decide, by decide +kernel⟩
theorem wX4_init : wdI yX4_init cX4_init 1 := ⟨rfl, m1_125, m1_4, m1_126, by decide, by decide +kernel⟩
theorem wX10_init : wdI yX10_init cX10_init 1 := ⟨rfl, m1_96, m1_3, m1_97, by decide, by decide +kernel⟩
theorem wX8_init : wdI yX8_init cX8_init 1 := ⟨rfl, m1_202, m1_12, m1_203, by decide, by decide +kernel⟩
theorem wX5_init : wdI yX5_init cX5_init 1 := ⟨rfl, m1_33, m1_2, m1_34, by decide, by decide +kernel⟩
theorem wX6_init : wdI yX6_init cX6_init 1 := ⟨rfl, m1_140, m1_5, m1_141, by decide, by decide +kernel⟩
theorem wX11_init : wdI yX11_init cX11_init 1 := ⟨rfl, m1_25, m1_1, m1_26, by decide, by decide +kernel⟩
theorem wX12_init : wdI yX12_init cX12_init 1 := ⟨rfl, m3_202, m1_13, m3_203, by decide, by decide +kernel⟩
set_option maxHeartbeats 2000000 in
set_option maxRecDepth 100000 in
theorem f_X7_init (l : Launch) (E : Ew) (b : Nat) : Fi l E 1 0 0 yX7_init cX7_init 1 [.ref b] [] (fun w => w = []) := by
  refine fi_V (by decide) rfl (Nat.le_of_ble_eq_true rfl) ?_
  intro K hC hMc hMs hI hR
  show G (kS K 0 0) E 1 [] [(0, .ref b)] 0 []
  refine g_aload_n hC dX7_init_0 rfl 0 rfl ?_
  refine g_objI hC m1_149 dX7_init_1 (by decide) (Nat.le_of_ble_eq_true rfl) ?_
  exact hR _ _ _ rfl dX7_init_4
set_option maxHeartbeats 2000000 in
set_option maxRecDepth 100000 in
theorem f_X0_init (l : Launch) (E : Ew) (b : Nat) : Fi l E 2 0 0 yX0_init cX0_init 1 [.ref b] [] (fun w => w = []) := by
  refine fi_V (by decide) rfl (Nat.le_of_ble_eq_true rfl) ?_
  intro K hC hMc hMs hI hR
  show G (kS K 0 0) E 1 [] [(0, .ref b)] 0 []
  refine g_aload_n hC dX0_init_0 rfl 0 rfl ?_
  refine g_callIN hC (f_X7_init (kl K) E b) wX7_init (List.mem_of_getElem? (i := 6) rfl) dX0_init_1 [] [] [] (by decide) (by rw [hMc]; decide) (by rw [hMs]; decide) (Nat.le_of_ble_eq_true rfl) rfl rfl rfl rfl (by decide) ?_
  rintro w rfl hC
  show G (kS K 0 0) E 1 [] [(0, .ref b)] 4 []
  exact hR _ _ _ rfl dX0_init_4
set_option maxHeartbeats 2000000 in
set_option maxRecDepth 100000 in
theorem f_X3_init (l : Launch) (E : Ew) (b : Nat) : Fi l E 2 0 0 yX3_init cX3_init 1 [.ref b] [] (fun w => w = []) := by
  refine fi_V (by decide) rfl (Nat.le_of_ble_eq_true rfl) ?_
  intro K hC hMc hMs hI hR
  show G (kS K 0 0) E 1 [] [(0, .ref b)] 0 []
  refine g_aload_n hC dX3_init_0 rfl 0 rfl ?_
  refine g_callIN hC (f_X7_init (kl K) E b) wX7_init (List.mem_of_getElem? (i := 8) rfl) dX3_init_1 [] [] [] (by decide) (by rw [hMc]; decide) (by rw [hMs]; decide) (Nat.le_of_ble_eq_true rfl) rfl rfl rfl rfl (by decide) ?_
  rintro w rfl hC
  show G (kS K 0 0) E 1 [] [(0, .ref b)] 4 []
  exact hR _ _ _ rfl dX3_init_4
set_option maxHeartbeats 2000000 in
set_option maxRecDepth 100000 in
theorem f_X1_init (l : Launch) (E : Ew) (b : Nat) : Fi l E 2 0 0 yX1_init cX1_init 1 [.ref b] [] (fun w => w = []) := by
  refine fi_V (by decide) rfl (Nat.le_of_ble_eq_true rfl) ?_
  intro K hC hMc hMs hI hR
  show G (kS K 0 0) E 1 [] [(0, .ref b)] 0 []
  refine g_aload_n hC dX1_init_0 rfl 0 rfl ?_
  refine g_callIN hC (f_X7_init (kl K) E b) wX7_init (List.mem_of_getElem? (i := 10) rfl) dX1_init_1 [] [] [] (by decide) (by rw [hMc]; decide) (by rw [hMs]; decide) (Nat.le_of_ble_eq_true rfl) rfl rfl rfl rfl (by decide) ?_
  rintro w rfl hC
  show G (kS K 0 0) E 1 [] [(0, .ref b)] 4 []
  exact hR _ _ _ rfl dX1_init_4
set_option maxHeartbeats 2000000 in
set_option maxRecDepth 100000 in
theorem f_X9_init (l : Launch) (E : Ew) (b : Nat) : Fi l E 3 0 0 yX9_init cX9_init 1 [.ref b] [] (fun w => w = []) := by
  refine fi_V (by decide) rfl (Nat.le_of_ble_eq_true rfl) ?_
  intro K hC hMc hMs hI hR
  show G (kS K 0 0) E 1 [] [(0, .ref b)] 0 []
  refine g_aload_n hC dX9_init_0 rfl 0 rfl ?_
  refine g_callIN hC (f_X1_init (kl K) E b) wX1_init (List.mem_of_getElem? (i := 12) rfl) dX9_init_1 [] [] [] (by decide) (by rw [hMc]; decide) (by rw [hMs]; decide) (Nat.le_of_ble_eq_true rfl) rfl rfl rfl rfl (by decide) ?_
  rintro w rfl hC
  show G (kS K 0 0) E 1 [] [(0, .ref b)] 4 []
  exact hR _ _ _ rfl dX9_init_4
set_option maxHeartbeats 2000000 in
set_option maxRecDepth 100000 in
theorem f_X2_init (l : Launch) (E : Ew) (b : Nat) : Fi l E 3 0 0 yX2_init cX2_init 1 [.ref b] [] (fun w => w = []) := by
  refine fi_V (by decide) rfl (Nat.le_of_ble_eq_true rfl) ?_
  intro K hC hMc hMs hI hR
  show G (kS K 0 0) E 1 [] [(0, .ref b)] 0 []
  refine g_aload_n hC dX2_init_0 rfl 0 rfl ?_
  refine g_callIN hC (f_X0_init (kl K) E b) wX0_init (List.mem_of_getElem? (i := 14) rfl) dX2_init_1 [] [] [] (by decide) (by rw [hMc]; decide) (by rw [hMs]; decide) (Nat.le_of_ble_eq_true rfl) rfl rfl rfl rfl (by decide) ?_
  rintro w rfl hC
  show G (kS K 0 0) E 1 [] [(0, .ref b)] 4 []
  exact hR _ _ _ rfl dX2_init_4
set_option maxHeartbeats 2000000 in
set_option maxRecDepth 100000 in
theorem f_X4_init (l : Launch) (E : Ew) (b : Nat) : Fi l E 1 0 0 yX4_init cX4_init 1 [.ref b] [(b, .inr (4, [.long 0, .long 0]))] (fun w => w = [(b, .inr (4, [.long 0, .long 1]))]) := by
  refine fi_V (by decide) rfl (Nat.le_of_ble_eq_true rfl) ?_
  intro K hC hMc hMs hI hR
  show G (kS K 0 0) E 1 [(b, .inr (4, [.long 0, .long 0]))] [(0, .ref b)] 0 []
  refine g_aload_n hC dX4_init_0 rfl 0 rfl ?_
  refine g_objI hC m1_127 dX4_init_1 (by decide) (Nat.le_of_ble_eq_true rfl) ?_
  refine g_aload_n hC dX4_init_4 rfl 0 rfl ?_
  refine g_lconst (v := 0) hC dX4_init_5 (by decide) ?_
  refine g_put hC 0 4 0 [(b, .inr (4, [.long 0, .long 0]))] .long inX4 tyX4_ok nmX4 m1_128 dX4_init_6 rfl rfl (by decide) rfl (by decide +kernel) rfl rfl (Nat.le_of_ble_eq_true rfl) rfl ?_
  refine g_aload_n hC dX4_init_9 rfl 0 rfl ?_
  refine g_lconst (v := 1) hC dX4_init_10 (by decide) ?_
  refine g_put hC 0 4 1 [(b, .inr (4, [.long 0, .long 1]))] .long inX4 tyX4_ok nmX4 m1_130 dX4_init_11 rfl rfl (by decide) rfl (by decide +kernel) rfl rfl (Nat.le_of_ble_eq_true rfl) rfl ?_
  exact hR _ _ _ rfl dX4_init_14
set_option maxHeartbeats 2000000 in
set_option maxRecDepth 100000 in
theorem f_X10_init (l : Launch) (E : Ew) (b : Nat) : Fi l E 1 1 150 yX10_init cX10_init 1 [.ref b] [(b, .inr (10, [.null, .int (nI 0), .int (nI 0), .int (nI 0), .int (nI 0), .int (nI 0)]))] (fun w => ∃ q : Nat, w = [(b, .inr (10, [.ref q, .int (nI 0), .int (nI 0), .int (nI 0), .int (nI 0), .int (nI 0)])), (q, .inl (E.2.1 1, 150, .inl (nf (fun _ => 0))))]) := by
  refine fi_V (by decide) rfl (Nat.le_of_ble_eq_true rfl) ?_
  intro K hC hMc hMs hI hR
  show G (kS K 0 0) E 1 [(b, .inr (10, [.null, .int (nI 0), .int (nI 0), .int (nI 0), .int (nI 0), .int (nI 0)]))] [(0, .ref b)] 0 []
  refine g_aload_n hC dX10_init_0 rfl 0 rfl ?_
  refine g_objI hC m1_98 dX10_init_1 (by decide) (Nat.le_of_ble_eq_true rfl) ?_
  refine g_aload_n hC dX10_init_4 rfl 0 rfl ?_
  refine g_sipush (v := nI 150) hC dX10_init_5 (by decide) ?_
  refine g_newa (atype := .byte) hC 1 (ty := .byte) 150 m1_121 rfl rfl (fun _ _ h => h) (fun _ => rfl) (by decide) (by decide) (by rw [hMc]; decide) (by rw [hMs]; decide) dX10_init_8 (fun q1 hC => ?_)
  show G (kS K 1 150) E 1 [(b, .inr (10, [.null, .int (nI 0), .int (nI 0), .int (nI 0), .int (nI 0), .int (nI 0)])), (q1, .inl (E.2.1 1, 150, .inl (fun _ => nI 0)))] [(0, .ref b)] 10 [.ref q1, .ref b]
  refine g_putF hC hI 0 10 0 [(b, .inr (10, [.ref q1, .int (nI 0), .int (nI 0), .int (nI 0), .int (nI 0), .int (nI 0)])), (q1, .inl (E.2.1 1, 150, .inl (fun _ => nI 0)))] (.array .byte) inX10 tyX10_ok nmX10 m1_99 dX10_init_10 rfl rfl (by decide) rfl rfl (by decide +kernel) rfl rfl (Nat.le_of_ble_eq_true rfl) rfl ?_
  exact hR _ _ _ ⟨q1, rfl⟩ dX10_init_13
set_option maxHeartbeats 2000000 in
set_option maxRecDepth 100000 in
theorem f_X8_init (l : Launch) (E : Ew) (b : Nat) : Fi l E 1 1 7 yX8_init cX8_init 1 [.ref b] [(b, .inr (8, [.null, .int (nI 0), .int (nI 0), .int (nI 0)]))] (fun w => ∃ q : Nat, w = [(b, .inr (8, [.ref q, .int (nI 0), .int (nI 0), .int (nI 0)])), (q, .inl (E.2.1 0, 7, .inl (nf (fun _ => 0))))]) := by
  refine fi_V (by decide) rfl (Nat.le_of_ble_eq_true rfl) ?_
  intro K hC hMc hMs hI hR
  show G (kS K 0 0) E 1 [(b, .inr (8, [.null, .int (nI 0), .int (nI 0), .int (nI 0)]))] [(0, .ref b)] 0 []
  refine g_aload_n hC dX8_init_0 rfl 0 rfl ?_
  refine g_objI hC m1_204 dX8_init_1 (by decide) (Nat.le_of_ble_eq_true rfl) ?_
  refine g_aload_n hC dX8_init_4 rfl 0 rfl ?_
  refine g_bipush (v := nI 7) hC dX8_init_5 (by decide) ?_
  refine g_newa (atype := .int) hC 0 (ty := .int) 7 m1_91 rfl rfl (fun _ _ h => h) (fun _ => rfl) (by decide) (by decide) (by rw [hMc]; decide) (by rw [hMs]; decide) dX8_init_7 (fun q1 hC => ?_)
  show G (kS K 1 7) E 1 [(b, .inr (8, [.null, .int (nI 0), .int (nI 0), .int (nI 0)])), (q1, .inl (E.2.1 0, 7, .inl (fun _ => nI 0)))] [(0, .ref b)] 9 [.ref q1, .ref b]
  refine g_putF hC hI 0 8 0 [(b, .inr (8, [.ref q1, .int (nI 0), .int (nI 0), .int (nI 0)])), (q1, .inl (E.2.1 0, 7, .inl (fun _ => nI 0)))] (.array .int) inX8 tyX8_ok nmX8 m1_205 dX8_init_9 rfl rfl (by decide) rfl rfl (by decide +kernel) rfl rfl (Nat.le_of_ble_eq_true rfl) rfl ?_
  exact hR _ _ _ ⟨q1, rfl⟩ dX8_init_12
set_option maxHeartbeats 2000000 in
set_option maxRecDepth 100000 in
theorem f_X5_init (l : Launch) (E : Ew) (b : Nat) : Fi l E 1 7 183 yX5_init cX5_init 1 [.ref b] [(b, .inr (5, [.int (nI 0), .int (nI 0), .null, .null, .null, .int (nI 0), .null, .null, .int (nI 0), .null, .int (nI 0), .null]))] (fun w => ∃ h : Nat → Nat, h 0 = b ∧ w = [(h 0, .inr (5, oH h (nI 0) (nI 0) (nI 0) (nI 0) (nI 0))), (h 1, .inl (E.2.1 0, 7, .inl (nf (fun _ => 0)))), (h 2, .inl (E.2.1 0, 7, .inl (nf (fun _ => 0)))), (h 3, .inl (E.2.1 0, 7, .inl (nf (fun _ => 0)))), (h 4, .inl (E.2.1 0, 6, .inl (nf (fun _ => 0)))), (h 5, .inl (E.2.1 0, 6, .inl (nf (fun _ => 0)))), (h 6, .inl (E.2.1 0, 30, .inl (nf (fun _ => 0)))), (h 7, .inl (E.2.1 0, 120, .inl (nf (fun _ => 0))))]) := by
  refine fi_V (by decide) rfl (Nat.le_of_ble_eq_true rfl) ?_
  intro K hC hMc hMs hI hR
  show G (kS K 0 0) E 1 [(b, .inr (5, [.int (nI 0), .int (nI 0), .null, .null, .null, .int (nI 0), .null, .null, .int (nI 0), .null, .int (nI 0), .null]))] [(0, .ref b)] 0 []
  refine g_aload_n hC dX5_init_0 rfl 0 rfl ?_
  refine g_objI hC m1_35 dX5_init_1 (by decide) (Nat.le_of_ble_eq_true rfl) ?_
  refine g_aload_n hC dX5_init_4 rfl 0 rfl ?_
  refine g_bipush (v := nI 7) hC dX5_init_5 (by decide) ?_
  refine g_newa (atype := .int) hC 0 (ty := .int) 7 m1_91 rfl rfl (fun _ _ h => h) (fun _ => rfl) (by decide) (by decide) (by rw [hMc]; decide) (by rw [hMs]; decide) dX5_init_7 (fun q1 hC => ?_)
  show G (kS K 1 7) E 1 [(b, .inr (5, [.int (nI 0), .int (nI 0), .null, .null, .null, .int (nI 0), .null, .null, .int (nI 0), .null, .int (nI 0), .null])), (q1, .inl (E.2.1 0, 7, .inl (fun _ => nI 0)))] [(0, .ref b)] 9 [.ref q1, .ref b]
  refine g_putF hC hI 0 5 2 [(b, .inr (5, [.int (nI 0), .int (nI 0), .ref q1, .null, .null, .int (nI 0), .null, .null, .int (nI 0), .null, .int (nI 0), .null])), (q1, .inl (E.2.1 0, 7, .inl (fun _ => nI 0)))] (.array .int) inX5 tyX5_ok nmX5 m1_44 dX5_init_9 rfl rfl (by decide) rfl rfl (by decide +kernel) rfl rfl (Nat.le_of_ble_eq_true rfl) rfl ?_
  refine g_aload_n hC dX5_init_12 rfl 0 rfl ?_
  refine g_bipush (v := nI 7) hC dX5_init_13 (by decide) ?_
  refine g_newa (atype := .int) hC 0 (ty := .int) 7 m1_91 rfl rfl (fun _ _ h => h) (fun _ => rfl) (by decide) (by decide) (by rw [hMc]; decide) (by rw [hMs]; decide) dX5_init_15 (fun q2 hC => ?_)
  show G (kS K 2 14) E 1 [(b, .inr (5, [.int (nI 0), .int (nI 0), .ref q1, .null, .null, .int (nI 0), .null, .null, .int (nI 0), .null, .int (nI 0), .null])), (q1, .inl (E.2.1 0, 7, .inl (fun _ => nI 0))), (q2, .inl (E.2.1 0, 7, .inl (fun _ => nI 0)))] [(0, .ref b)] 17 [.ref q2, .ref b]
  refine g_putF hC hI 0 5 3 [(b, .inr (5, [.int (nI 0), .int (nI 0), .ref q1, .ref q2, .null, .int (nI 0), .null, .null, .int (nI 0), .null, .int (nI 0), .null])), (q1, .inl (E.2.1 0, 7, .inl (fun _ => nI 0))), (q2, .inl (E.2.1 0, 7, .inl (fun _ => nI 0)))] (.array .int) inX5 tyX5_ok nmX5 m1_47 dX5_init_17 rfl rfl (by decide) rfl rfl (by decide +kernel) rfl rfl (Nat.le_of_ble_eq_true rfl) rfl ?_
  refine g_aload_n hC dX5_init_20 rfl 0 rfl ?_
  refine g_bipush (v := nI 7) hC dX5_init_21 (by decide) ?_
  refine g_newa (atype := .int) hC 0 (ty := .int) 7 m1_91 rfl rfl (fun _ _ h => h) (fun _ => rfl) (by decide) (by decide) (by rw [hMc]; decide) (by rw [hMs]; decide) dX5_init_23 (fun q3 hC => ?_)
  show G (kS K 3 21) E 1 [(b, .inr (5, [.int (nI 0), .int (nI 0), .ref q1, .ref q2, .null, .int (nI 0), .null, .null, .int (nI 0), .null, .int (nI 0), .null])), (q1, .inl (E.2.1 0, 7, .inl (fun _ => nI 0))), (q2, .inl (E.2.1 0, 7, .inl (fun _ => nI 0))), (q3, .inl (E.2.1 0, 7, .inl (fun _ => nI 0)))] [(0, .ref b)] 25 [.ref q3, .ref b]
  refine g_putF hC hI 0 5 4 [(b, .inr (5, [.int (nI 0), .int (nI 0), .ref q1, .ref q2, .ref q3, .int (nI 0), .null, .null, .int (nI 0), .null, .int (nI 0), .null])), (q1, .inl (E.2.1 0, 7, .inl (fun _ => nI 0))), (q2, .inl (E.2.1 0, 7, .inl (fun _ => nI 0))), (q3, .inl (E.2.1 0, 7, .inl (fun _ => nI 0)))] (.array .int) inX5 tyX5_ok nmX5 m1_50 dX5_init_25 rfl rfl (by decide) rfl rfl (by decide +kernel) rfl rfl (Nat.le_of_ble_eq_true rfl) rfl ?_
  refine g_aload_n hC dX5_init_28 rfl 0 rfl ?_
  refine g_bipush (v := nI 6) hC dX5_init_29 (by decide) ?_
  refine g_newa (atype := .int) hC 0 (ty := .int) 6 m1_91 rfl rfl (fun _ _ h => h) (fun _ => rfl) (by decide) (by decide) (by rw [hMc]; decide) (by rw [hMs]; decide) dX5_init_31 (fun q4 hC => ?_)
  show G (kS K 4 27) E 1 [(b, .inr (5, [.int (nI 0), .int (nI 0), .ref q1, .ref q2, .ref q3, .int (nI 0), .null, .null, .int (nI 0), .null, .int (nI 0), .null])), (q1, .inl (E.2.1 0, 7, .inl (fun _ => nI 0))), (q2, .inl (E.2.1 0, 7, .inl (fun _ => nI 0))), (q3, .inl (E.2.1 0, 7, .inl (fun _ => nI 0))), (q4, .inl (E.2.1 0, 6, .inl (fun _ => nI 0)))] [(0, .ref b)] 33 [.ref q4, .ref b]
  refine g_putF hC hI 0 5 6 [(b, .inr (5, [.int (nI 0), .int (nI 0), .ref q1, .ref q2, .ref q3, .int (nI 0), .ref q4, .null, .int (nI 0), .null, .int (nI 0), .null])), (q1, .inl (E.2.1 0, 7, .inl (fun _ => nI 0))), (q2, .inl (E.2.1 0, 7, .inl (fun _ => nI 0))), (q3, .inl (E.2.1 0, 7, .inl (fun _ => nI 0))), (q4, .inl (E.2.1 0, 6, .inl (fun _ => nI 0)))] (.array .int) inX5 tyX5_ok nmX5 m1_55 dX5_init_33 rfl rfl (by decide) rfl rfl (by decide +kernel) rfl rfl (Nat.le_of_ble_eq_true rfl) rfl ?_
  refine g_aload_n hC dX5_init_36 rfl 0 rfl ?_
  refine g_bipush (v := nI 6) hC dX5_init_37 (by decide) ?_
  refine g_newa (atype := .int) hC 0 (ty := .int) 6 m1_91 rfl rfl (fun _ _ h => h) (fun _ => rfl) (by decide) (by decide) (by rw [hMc]; decide) (by rw [hMs]; decide) dX5_init_39 (fun q5 hC => ?_)
  show G (kS K 5 33) E 1 [(b, .inr (5, [.int (nI 0), .int (nI 0), .ref q1, .ref q2, .ref q3, .int (nI 0), .ref q4, .null, .int (nI 0), .null, .int (nI 0), .null])), (q1, .inl (E.2.1 0, 7, .inl (fun _ => nI 0))), (q2, .inl (E.2.1 0, 7, .inl (fun _ => nI 0))), (q3, .inl (E.2.1 0, 7, .inl (fun _ => nI 0))), (q4, .inl (E.2.1 0, 6, .inl (fun _ => nI 0))), (q5, .inl (E.2.1 0, 6, .inl (fun _ => nI 0)))] [(0, .ref b)] 41 [.ref q5, .ref b]
  refine g_putF hC hI 0 5 7 [(b, .inr (5, [.int (nI 0), .int (nI 0), .ref q1, .ref q2, .ref q3, .int (nI 0), .ref q4, .ref q5, .int (nI 0), .null, .int (nI 0), .null])), (q1, .inl (E.2.1 0, 7, .inl (fun _ => nI 0))), (q2, .inl (E.2.1 0, 7, .inl (fun _ => nI 0))), (q3, .inl (E.2.1 0, 7, .inl (fun _ => nI 0))), (q4, .inl (E.2.1 0, 6, .inl (fun _ => nI 0))), (q5, .inl (E.2.1 0, 6, .inl (fun _ => nI 0)))] (.array .int) inX5 tyX5_ok nmX5 m1_57 dX5_init_41 rfl rfl (by decide) rfl rfl (by decide +kernel) rfl rfl (Nat.le_of_ble_eq_true rfl) rfl ?_
  refine g_aload_n hC dX5_init_44 rfl 0 rfl ?_
  refine g_bipush (v := nI 30) hC dX5_init_45 (by decide) ?_
  refine g_newa (atype := .int) hC 0 (ty := .int) 30 m1_91 rfl rfl (fun _ _ h => h) (fun _ => rfl) (by decide) (by decide) (by rw [hMc]; decide) (by rw [hMs]; decide) dX5_init_47 (fun q6 hC => ?_)
  show G (kS K 6 63) E 1 [(b, .inr (5, [.int (nI 0), .int (nI 0), .ref q1, .ref q2, .ref q3, .int (nI 0), .ref q4, .ref q5, .int (nI 0), .null, .int (nI 0), .null])), (q1, .inl (E.2.1 0, 7, .inl (fun _ => nI 0))), (q2, .inl (E.2.1 0, 7, .inl (fun _ => nI 0))), (q3, .inl (E.2.1 0, 7, .inl (fun _ => nI 0))), (q4, .inl (E.2.1 0, 6, .inl (fun _ => nI 0))), (q5, .inl (E.2.1 0, 6, .inl (fun _ => nI 0))), (q6, .inl (E.2.1 0, 30, .inl (fun _ => nI 0)))] [(0, .ref b)] 49 [.ref q6, .ref b]
  refine g_putF hC hI 0 5 9 [(b, .inr (5, [.int (nI 0), .int (nI 0), .ref q1, .ref q2, .ref q3, .int (nI 0), .ref q4, .ref q5, .int (nI 0), .ref q6, .int (nI 0), .null])), (q1, .inl (E.2.1 0, 7, .inl (fun _ => nI 0))), (q2, .inl (E.2.1 0, 7, .inl (fun _ => nI 0))), (q3, .inl (E.2.1 0, 7, .inl (fun _ => nI 0))), (q4, .inl (E.2.1 0, 6, .inl (fun _ => nI 0))), (q5, .inl (E.2.1 0, 6, .inl (fun _ => nI 0))), (q6, .inl (E.2.1 0, 30, .inl (fun _ => nI 0)))] (.array .int) inX5 tyX5_ok nmX5 m1_61 dX5_init_49 rfl rfl (by decide) rfl rfl (by decide +kernel) rfl rfl (Nat.le_of_ble_eq_true rfl) rfl ?_
  refine g_aload_n hC dX5_init_52 rfl 0 rfl ?_
  refine g_bipush (v := nI 120) hC dX5_init_53 (by decide) ?_
  refine g_newa (atype := .int) hC 0 (ty := .int) 120 m1_91 rfl rfl (fun _ _ h => h) (fun _ => rfl) (by decide) (by decide) (by rw [hMc]; decide) (by rw [hMs]; decide) dX5_init_55 (fun q7 hC => ?_)
  show G (kS K 7 183) E 1 [(b, .inr (5, [.int (nI 0), .int (nI 0), .ref q1, .ref q2, .ref q3, .int (nI 0), .ref q4, .ref q5, .int (nI 0), .ref q6, .int (nI 0), .null])), (q1, .inl (E.2.1 0, 7, .inl (fun _ => nI 0))), (q2, .inl (E.2.1 0, 7, .inl (fun _ => nI 0))), (q3, .inl (E.2.1 0, 7, .inl (fun _ => nI 0))), (q4, .inl (E.2.1 0, 6, .inl (fun _ => nI 0))), (q5, .inl (E.2.1 0, 6, .inl (fun _ => nI 0))), (q6, .inl (E.2.1 0, 30, .inl (fun _ => nI 0))), (q7, .inl (E.2.1 0, 120, .inl (fun _ => nI 0)))] [(0, .ref b)] 57 [.ref q7, .ref b]
  refine g_putF hC hI 0 5 11 [(b, .inr (5, [.int (nI 0), .int (nI 0), .ref q1, .ref q2, .ref q3, .int (nI 0), .ref q4, .ref q5, .int (nI 0), .ref q6, .int (nI 0), .ref q7])), (q1, .inl (E.2.1 0, 7, .inl (fun _ => nI 0))), (q2, .inl (E.2.1 0, 7, .inl (fun _ => nI 0))), (q3, .inl (E.2.1 0, 7, .inl (fun _ => nI 0))), (q4, .inl (E.2.1 0, 6, .inl (fun _ => nI 0))), (q5, .inl (E.2.1 0, 6, .inl (fun _ => nI 0))), (q6, .inl (E.2.1 0, 30, .inl (fun _ => nI 0))), (q7, .inl (E.2.1 0, 120, .inl (fun _ => nI 0)))] (.array .int) inX5 tyX5_ok nmX5 m1_65 dX5_init_57 rfl rfl (by decide) rfl rfl (by decide +kernel) rfl rfl (Nat.le_of_ble_eq_true rfl) rfl ?_
  exact hR _ _ _ ⟨fun i => ([b, q1, q2, q3, q4, q5, q6, q7] : List Nat).getD i 0, rfl, rfl⟩ dX5_init_60
set_option maxHeartbeats 2000000 in
set_option maxRecDepth 100000 in
theorem f_X6_init (l : Launch) (E : Ew) (b : Nat) : Fi l E 4 10 36 yX6_init cX6_init 1 [.ref b] [(b, .inr (6, [.null, .null, .null, .null]))] (fun w => ∃ x : Nat → Nat, x 7 = b ∧ w = [(x 7, .inr (6, oG x)), (x 8, .inl (E.2.1 4, 6, .inr (.inr (.inr (.inr (fun j => some (x (14 + j)))))))), (x 9, .inl (E.2.1 0, 10, .inl (nf (fun _ => 0)))), (x 10, .inl (E.2.1 0, 10, .inl (nf (fun _ => 0)))), (x 11, .inl (E.2.1 0, 10, .inl (nf (fun _ => 0)))), (x 14, .inr (7, [])), (x 15, .inr (0, [])), (x 16, .inr (3, [])), (x 17, .inr (1, [])), (x 18, .inr (9, [])), (x 19, .inr (2, []))]) := by
  refine fi_V (by decide) rfl (Nat.le_of_ble_eq_true rfl) ?_
  intro K hC hMc hMs hI hR
  show G (kS K 0 0) E 1 [(b, .inr (6, [.null, .null, .null, .null]))] [(0, .ref b)] 0 []
  refine g_aload_n hC dX6_init_0 rfl 0 rfl ?_
  refine g_objI hC m1_142 dX6_init_1 (by decide) (Nat.le_of_ble_eq_true rfl) ?_
  refine g_aload_n hC dX6_init_4 rfl 0 rfl ?_
  refine g_bipush (v := nI 6) hC dX6_init_5 (by decide) ?_
  refine g_newq hC 4 6 m1_143 hC.2.2.2.2.2.2.2.1.2.2.2.2.2.2.1 rfl (by decide) (by rw [hMc]; decide) (by rw [hMs]; decide) dX6_init_7 (fun q1 hC => ?_)
  show G (kS K 1 6) E 1 [(b, .inr (6, [.null, .null, .null, .null])), (q1, .inl (E.2.1 4, 6, .inr (.inr (.inr (.inr (fun _ => none))))))] [(0, .ref b)] 10 [.ref q1, .ref b]
  refine g_dup hC dX6_init_10 rfl ?_
  refine g_iconst (v := nI 0) hC dX6_init_11 (by decide) ?_
  refine g_new hC 7 [] inX7 tyX7_ok m1_143 m1_145 m1_6 rfl (fun j hj => absurd hj (Nat.not_lt_zero j)) (by rw [hMc]; decide) (by rw [hMs]; decide) dX6_init_12 (fun q2 hC => ?_)
  show G (kS K 2 6) E 1 [(b, .inr (6, [.null, .null, .null, .null])), (q1, .inl (E.2.1 4, 6, .inr (.inr (.inr (.inr (fun _ => none)))))), (q2, .inr (7, []))] [(0, .ref b)] 15 [.ref q2, .int (nI 0), .ref q1, .ref q1, .ref b]
  refine g_dup hC dX6_init_15 rfl ?_
  refine g_callIN hC (f_X7_init (kl K) E q2) wX7_init (List.mem_of_getElem? (i := 4) rfl) dX6_init_16 [] [0, 1, 2] [(b, .inr (6, [.null, .null, .null, .null])), (q1, .inl (E.2.1 4, 6, .inr (.inr (.inr (.inr (fun _ => none)))))), (q2, .inr (7, []))] (by decide) (by rw [hMc]; decide) (by rw [hMs]; decide) (Nat.le_of_ble_eq_true rfl) rfl rfl rfl rfl (by decide) ?_
  rintro w rfl hC
  show G (kS K 2 6) E 1 [(b, .inr (6, [.null, .null, .null, .null])), (q1, .inl (E.2.1 4, 6, .inr (.inr (.inr (.inr (fun _ => none)))))), (q2, .inr (7, []))] [(0, .ref b)] 19 [.ref q2, .int (nI 0), .ref q1, .ref q1, .ref b]
  refine g_aast hC 1 4 2 7 [(b, .inr (6, [.null, .null, .null, .null])), (q1, .inl (E.2.1 4, 6, .inr (.inr (.inr (.inr (va_up (fun _ => none) 0 (some q2))))))), (q2, .inr (7, []))] rfl rfl rfl rfl (by decide) (by decide) dX6_init_19 rfl ?_
  refine g_dup hC dX6_init_20 rfl ?_
  refine g_iconst (v := nI 1) hC dX6_init_21 (by decide) ?_
  refine g_new hC 0 [] inX0 tyX0_ok m1_151 m1_152 m1_7 rfl (fun j hj => absurd hj (Nat.not_lt_zero j)) (by rw [hMc]; decide) (by rw [hMs]; decide) dX6_init_22 (fun q3 hC => ?_)
  show G (kS K 3 6) E 1 [(b, .inr (6, [.null, .null, .null, .null])), (q1, .inl (E.2.1 4, 6, .inr (.inr (.inr (.inr (va_up (fun _ => none) 0 (some q2))))))), (q2, .inr (7, [])), (q3, .inr (0, []))] [(0, .ref b)] 25 [.ref q3, .int (nI 1), .ref q1, .ref q1, .ref b]
  refine g_dup hC dX6_init_25 rfl ?_
  refine g_callIN hC (f_X0_init (kl K) E q3) wX0_init (List.mem_of_getElem? (i := 5) rfl) dX6_init_26 [] [0, 1, 2, 3] [(b, .inr (6, [.null, .null, .null, .null])), (q1, .inl (E.2.1 4, 6, .inr (.inr (.inr (.inr (va_up (fun _ => none) 0 (some q2))))))), (q2, .inr (7, [])), (q3, .inr (0, []))] (by decide) (by rw [hMc]; decide) (by rw [hMs]; decide) (Nat.le_of_ble_eq_true rfl) rfl rfl rfl rfl (by decide) ?_
  rintro w rfl hC
  show G (kS K 3 6) E 1 [(b, .inr (6, [.null, .null, .null, .null])), (q1, .inl (E.2.1 4, 6, .inr (.inr (.inr (.inr (va_up (fun _ => none) 0 (some q2))))))), (q2, .inr (7, [])), (q3, .inr (0, []))] [(0, .ref b)] 29 [.ref q3, .int (nI 1), .ref q1, .ref q1, .ref b]
  refine g_aastO hC 1 4 3 0 [(b, .inr (6, [.null, .null, .null, .null])), (q1, .inl (E.2.1 4, 6, .inr (.inr (.inr (.inr (va_up (va_up (fun _ => none) 0 (some q2)) 1 (some q3))))))), (q2, .inr (7, [])), (q3, .inr (0, []))] (B := "LastCalled$Plain") rfl rfl (hC.2.2.2.2.2.2.2.1.2.2.2.2.2.2.2 _ (List.mem_of_getElem? (i := 0) rfl)) rfl rfl (by decide) (by decide) dX6_init_29 rfl ?_
  refine g_dup hC dX6_init_30 rfl ?_
  refine g_iconst (v := nI 2) hC dX6_init_31 (by decide) ?_
  refine g_new hC 3 [] inX3 tyX3_ok m1_158 m1_159 m1_8 rfl (fun j hj => absurd hj (Nat.not_lt_zero j)) (by rw [hMc]; decide) (by rw [hMs]; decide) dX6_init_32 (fun q4 hC => ?_)
  show G (kS K 4 6) E 1 [(b, .inr (6, [.null, .null, .null, .null])), (q1, .inl (E.2.1 4, 6, .inr (.inr (.inr (.inr (va_up (va_up (fun _ => none) 0 (some q2)) 1 (some q3))))))), (q2, .inr (7, [])), (q3, .inr (0, [])), (q4, .inr (3, []))] [(0, .ref b)] 35 [.ref q4, .int (nI 2), .ref q1, .ref q1, .ref b]
  refine g_dup hC dX6_init_35 rfl ?_
  refine g_callIN hC (f_X3_init (kl K) E q4) wX3_init (List.mem_of_getElem? (i := 7) rfl) dX6_init_36 [] [0, 1, 2, 3, 4] [(b, .inr (6, [.null, .null, .null, .null])), (q1, .inl (E.2.1 4, 6, .inr (.inr (.inr (.inr (va_up (va_up (fun _ => none) 0 (some q2)) 1 (some q3))))))), (q2, .inr (7, [])), (q3, .inr (0, [])), (q4, .inr (3, []))] (by decide) (by rw [hMc]; decide) (by rw [hMs]; decide) (Nat.le_of_ble_eq_true rfl) rfl rfl rfl rfl (by decide) ?_
  rintro w rfl hC
  show G (kS K 4 6) E 1 [(b, .inr (6, [.null, .null, .null, .null])), (q1, .inl (E.2.1 4, 6, .inr (.inr (.inr (.inr (va_up (va_up (fun _ => none) 0 (some q2)) 1 (some q3))))))), (q2, .inr (7, [])), (q3, .inr (0, [])), (q4, .inr (3, []))] [(0, .ref b)] 39 [.ref q4, .int (nI 2), .ref q1, .ref q1, .ref b]
  refine g_aastO hC 1 4 4 3 [(b, .inr (6, [.null, .null, .null, .null])), (q1, .inl (E.2.1 4, 6, .inr (.inr (.inr (.inr (va_up (va_up (va_up (fun _ => none) 0 (some q2)) 1 (some q3)) 2 (some q4))))))), (q2, .inr (7, [])), (q3, .inr (0, [])), (q4, .inr (3, []))] (B := "LastCalled$Plain") rfl rfl (hC.2.2.2.2.2.2.2.1.2.2.2.2.2.2.2 _ (List.mem_of_getElem? (i := 1) rfl)) rfl rfl (by decide) (by decide) dX6_init_39 rfl ?_
  refine g_dup hC dX6_init_40 rfl ?_
  refine g_iconst (v := nI 3) hC dX6_init_41 (by decide) ?_
  refine g_new hC 1 [] inX1 tyX1_ok m1_165 m1_166 m1_9 rfl (fun j hj => absurd hj (Nat.not_lt_zero j)) (by rw [hMc]; decide) (by rw [hMs]; decide) dX6_init_42 (fun q5 hC => ?_)
  show G (kS K 5 6) E 1 [(b, .inr (6, [.null, .null, .null, .null])), (q1, .inl (E.2.1 4, 6, .inr (.inr (.inr (.inr (va_up (va_up (va_up (fun _ => none) 0 (some q2)) 1 (some q3)) 2 (some q4))))))), (q2, .inr (7, [])), (q3, .inr (0, [])), (q4, .inr (3, [])), (q5, .inr (1, []))] [(0, .ref b)] 45 [.ref q5, .int (nI 3), .ref q1, .ref q1, .ref b]
  refine g_dup hC dX6_init_45 rfl ?_
  refine g_callIN hC (f_X1_init (kl K) E q5) wX1_init (List.mem_of_getElem? (i := 9) rfl) dX6_init_46 [] [0, 1, 2, 3, 4, 5] [(b, .inr (6, [.null, .null, .null, .null])), (q1, .inl (E.2.1 4, 6, .inr (.inr (.inr (.inr (va_up (va_up (va_up (fun _ => none) 0 (some q2)) 1 (some q3)) 2 (some q4))))))), (q2, .inr (7, [])), (q3, .inr (0, [])), (q4, .inr (3, [])), (q5, .inr (1, []))] (by decide) (by rw [hMc]; decide) (by rw [hMs]; decide) (Nat.le_of_ble_eq_true rfl) rfl rfl rfl rfl (by decide) ?_
  rintro w rfl hC
  show G (kS K 5 6) E 1 [(b, .inr (6, [.null, .null, .null, .null])), (q1, .inl (E.2.1 4, 6, .inr (.inr (.inr (.inr (va_up (va_up (va_up (fun _ => none) 0 (some q2)) 1 (some q3)) 2 (some q4))))))), (q2, .inr (7, [])), (q3, .inr (0, [])), (q4, .inr (3, [])), (q5, .inr (1, []))] [(0, .ref b)] 49 [.ref q5, .int (nI 3), .ref q1, .ref q1, .ref b]
  refine g_aastO hC 1 4 5 1 [(b, .inr (6, [.null, .null, .null, .null])), (q1, .inl (E.2.1 4, 6, .inr (.inr (.inr (.inr (va_up (va_up (va_up (va_up (fun _ => none) 0 (some q2)) 1 (some q3)) 2 (some q4)) 3 (some q5))))))), (q2, .inr (7, [])), (q3, .inr (0, [])), (q4, .inr (3, [])), (q5, .inr (1, []))] (B := "LastCalled$Plain") rfl rfl (hC.2.2.2.2.2.2.2.1.2.2.2.2.2.2.2 _ (List.mem_of_getElem? (i := 2) rfl)) rfl rfl (by decide) (by decide) dX6_init_49 rfl ?_
  refine g_dup hC dX6_init_50 rfl ?_
  refine g_iconst (v := nI 4) hC dX6_init_51 (by decide) ?_
  refine g_new hC 9 [] inX9 tyX9_ok m1_172 m1_173 m1_10 rfl (fun j hj => absurd hj (Nat.not_lt_zero j)) (by rw [hMc]; decide) (by rw [hMs]; decide) dX6_init_52 (fun q6 hC => ?_)
  show G (kS K 6 6) E 1 [(b, .inr (6, [.null, .null, .null, .null])), (q1, .inl (E.2.1 4, 6, .inr (.inr (.inr (.inr (va_up (va_up (va_up (va_up (fun _ => none) 0 (some q2)) 1 (some q3)) 2 (some q4)) 3 (some q5))))))), (q2, .inr (7, [])), (q3, .inr (0, [])), (q4, .inr (3, [])), (q5, .inr (1, [])), (q6, .inr (9, []))] [(0, .ref b)] 55 [.ref q6, .int (nI 4), .ref q1, .ref q1, .ref b]
  refine g_dup hC dX6_init_55 rfl ?_
  refine g_callIN hC (f_X9_init (kl K) E q6) wX9_init (List.mem_of_getElem? (i := 11) rfl) dX6_init_56 [] [0, 1, 2, 3, 4, 5, 6] [(b, .inr (6, [.null, .null, .null, .null])), (q1, .inl (E.2.1 4, 6, .inr (.inr (.inr (.inr (va_up (va_up (va_up (va_up (fun _ => none) 0 (some q2)) 1 (some q3)) 2 (some q4)) 3 (some q5))))))), (q2, .inr (7, [])), (q3, .inr (0, [])), (q4, .inr (3, [])), (q5, .inr (1, [])), (q6, .inr (9, []))] (by decide) (by rw [hMc]; decide) (by rw [hMs]; decide) (Nat.le_of_ble_eq_true rfl) rfl rfl rfl rfl (by decide) ?_
  rintro w rfl hC
  show G (kS K 6 6) E 1 [(b, .inr (6, [.null, .null, .null, .null])), (q1, .inl (E.2.1 4, 6, .inr (.inr (.inr (.inr (va_up (va_up (va_up (va_up (fun _ => none) 0 (some q2)) 1 (some q3)) 2 (some q4)) 3 (some q5))))))), (q2, .inr (7, [])), (q3, .inr (0, [])), (q4, .inr (3, [])), (q5, .inr (1, [])), (q6, .inr (9, []))] [(0, .ref b)] 59 [.ref q6, .int (nI 4), .ref q1, .ref q1, .ref b]
  refine g_aastO hC 1 4 6 9 [(b, .inr (6, [.null, .null, .null, .null])), (q1, .inl (E.2.1 4, 6, .inr (.inr (.inr (.inr (va_up (va_up (va_up (va_up (va_up (fun _ => none) 0 (some q2)) 1 (some q3)) 2 (some q4)) 3 (some q5)) 4 (some q6))))))), (q2, .inr (7, [])), (q3, .inr (0, [])), (q4, .inr (3, [])), (q5, .inr (1, [])), (q6, .inr (9, []))] (B := "LastCalled$Plain") rfl rfl (hC.2.2.2.2.2.2.2.1.2.2.2.2.2.2.2 _ (List.mem_of_getElem? (i := 3) rfl)) rfl rfl (by decide) (by decide) dX6_init_59 rfl ?_
  refine g_dup hC dX6_init_60 rfl ?_
  refine g_iconst (v := nI 5) hC dX6_init_61 (by decide) ?_
  refine g_new hC 2 [] inX2 tyX2_ok m1_179 m1_180 m1_11 rfl (fun j hj => absurd hj (Nat.not_lt_zero j)) (by rw [hMc]; decide) (by rw [hMs]; decide) dX6_init_62 (fun q7 hC => ?_)
  show G (kS K 7 6) E 1 [(b, .inr (6, [.null, .null, .null, .null])), (q1, .inl (E.2.1 4, 6, .inr (.inr (.inr (.inr (va_up (va_up (va_up (va_up (va_up (fun _ => none) 0 (some q2)) 1 (some q3)) 2 (some q4)) 3 (some q5)) 4 (some q6))))))), (q2, .inr (7, [])), (q3, .inr (0, [])), (q4, .inr (3, [])), (q5, .inr (1, [])), (q6, .inr (9, [])), (q7, .inr (2, []))] [(0, .ref b)] 65 [.ref q7, .int (nI 5), .ref q1, .ref q1, .ref b]
  refine g_dup hC dX6_init_65 rfl ?_
  refine g_callIN hC (f_X2_init (kl K) E q7) wX2_init (List.mem_of_getElem? (i := 13) rfl) dX6_init_66 [] [0, 1, 2, 3, 4, 5, 6, 7] [(b, .inr (6, [.null, .null, .null, .null])), (q1, .inl (E.2.1 4, 6, .inr (.inr (.inr (.inr (va_up (va_up (va_up (va_up (va_up (fun _ => none) 0 (some q2)) 1 (some q3)) 2 (some q4)) 3 (some q5)) 4 (some q6))))))), (q2, .inr (7, [])), (q3, .inr (0, [])), (q4, .inr (3, [])), (q5, .inr (1, [])), (q6, .inr (9, [])), (q7, .inr (2, []))] (by decide) (by rw [hMc]; decide) (by rw [hMs]; decide) (Nat.le_of_ble_eq_true rfl) rfl rfl rfl rfl (by decide) ?_
  rintro w rfl hC
  show G (kS K 7 6) E 1 [(b, .inr (6, [.null, .null, .null, .null])), (q1, .inl (E.2.1 4, 6, .inr (.inr (.inr (.inr (va_up (va_up (va_up (va_up (va_up (fun _ => none) 0 (some q2)) 1 (some q3)) 2 (some q4)) 3 (some q5)) 4 (some q6))))))), (q2, .inr (7, [])), (q3, .inr (0, [])), (q4, .inr (3, [])), (q5, .inr (1, [])), (q6, .inr (9, [])), (q7, .inr (2, []))] [(0, .ref b)] 69 [.ref q7, .int (nI 5), .ref q1, .ref q1, .ref b]
  refine g_aastO hC 1 4 7 2 [(b, .inr (6, [.null, .null, .null, .null])), (q1, .inl (E.2.1 4, 6, .inr (.inr (.inr (.inr (va_up (va_up (va_up (va_up (va_up (va_up (fun _ => none) 0 (some q2)) 1 (some q3)) 2 (some q4)) 3 (some q5)) 4 (some q6)) 5 (some q7))))))), (q2, .inr (7, [])), (q3, .inr (0, [])), (q4, .inr (3, [])), (q5, .inr (1, [])), (q6, .inr (9, [])), (q7, .inr (2, []))] (B := "LastCalled$Plain") rfl rfl (hC.2.2.2.2.2.2.2.1.2.2.2.2.2.2.2 _ (List.mem_of_getElem? (i := 4) rfl)) rfl rfl (by decide) (by decide) dX6_init_69 rfl ?_
  refine g_putF hC hI 0 6 0 [(b, .inr (6, [.ref q1, .null, .null, .null])), (q1, .inl (E.2.1 4, 6, .inr (.inr (.inr (.inr (va_up (va_up (va_up (va_up (va_up (va_up (fun _ => none) 0 (some q2)) 1 (some q3)) 2 (some q4)) 3 (some q5)) 4 (some q6)) 5 (some q7))))))), (q2, .inr (7, [])), (q3, .inr (0, [])), (q4, .inr (3, [])), (q5, .inr (1, [])), (q6, .inr (9, [])), (q7, .inr (2, []))] (.array (.object "LastCalled$Plain")) inX6 tyX6_ok nmX6 m1_186 dX6_init_70 rfl rfl (by decide) rfl rfl (by decide +kernel) rfl rfl (Nat.le_of_ble_eq_true rfl) rfl ?_
  refine g_aload_n hC dX6_init_73 rfl 0 rfl ?_
  refine g_bipush (v := nI 10) hC dX6_init_74 (by decide) ?_
  refine g_newa (atype := .int) hC 0 (ty := .int) 10 m1_91 rfl rfl (fun _ _ h => h) (fun _ => rfl) (by decide) (by decide) (by rw [hMc]; decide) (by rw [hMs]; decide) dX6_init_76 (fun q8 hC => ?_)
  show G (kS K 8 16) E 1 [(b, .inr (6, [.ref q1, .null, .null, .null])), (q1, .inl (E.2.1 4, 6, .inr (.inr (.inr (.inr (va_up (va_up (va_up (va_up (va_up (va_up (fun _ => none) 0 (some q2)) 1 (some q3)) 2 (some q4)) 3 (some q5)) 4 (some q6)) 5 (some q7))))))), (q2, .inr (7, [])), (q3, .inr (0, [])), (q4, .inr (3, [])), (q5, .inr (1, [])), (q6, .inr (9, [])), (q7, .inr (2, [])), (q8, .inl (E.2.1 0, 10, .inl (fun _ => nI 0)))] [(0, .ref b)] 78 [.ref q8, .ref b]
  refine g_putF hC hI 0 6 1 [(b, .inr (6, [.ref q1, .ref q8, .null, .null])), (q1, .inl (E.2.1 4, 6, .inr (.inr (.inr (.inr (va_up (va_up (va_up (va_up (va_up (va_up (fun _ => none) 0 (some q2)) 1 (some q3)) 2 (some q4)) 3 (some q5)) 4 (some q6)) 5 (some q7))))))), (q2, .inr (7, [])), (q3, .inr (0, [])), (q4, .inr (3, [])), (q5, .inr (1, [])), (q6, .inr (9, [])), (q7, .inr (2, [])), (q8, .inl (E.2.1 0, 10, .inl (fun _ => nI 0)))] (.array .int) inX6 tyX6_ok nmX6 m1_187 dX6_init_78 rfl rfl (by decide) rfl rfl (by decide +kernel) rfl rfl (Nat.le_of_ble_eq_true rfl) rfl ?_
  refine g_aload_n hC dX6_init_81 rfl 0 rfl ?_
  refine g_bipush (v := nI 10) hC dX6_init_82 (by decide) ?_
  refine g_newa (atype := .int) hC 0 (ty := .int) 10 m1_91 rfl rfl (fun _ _ h => h) (fun _ => rfl) (by decide) (by decide) (by rw [hMc]; decide) (by rw [hMs]; decide) dX6_init_84 (fun q9 hC => ?_)
  show G (kS K 9 26) E 1 [(b, .inr (6, [.ref q1, .ref q8, .null, .null])), (q1, .inl (E.2.1 4, 6, .inr (.inr (.inr (.inr (va_up (va_up (va_up (va_up (va_up (va_up (fun _ => none) 0 (some q2)) 1 (some q3)) 2 (some q4)) 3 (some q5)) 4 (some q6)) 5 (some q7))))))), (q2, .inr (7, [])), (q3, .inr (0, [])), (q4, .inr (3, [])), (q5, .inr (1, [])), (q6, .inr (9, [])), (q7, .inr (2, [])), (q8, .inl (E.2.1 0, 10, .inl (fun _ => nI 0))), (q9, .inl (E.2.1 0, 10, .inl (fun _ => nI 0)))] [(0, .ref b)] 86 [.ref q9, .ref b]
  refine g_putF hC hI 0 6 2 [(b, .inr (6, [.ref q1, .ref q8, .ref q9, .null])), (q1, .inl (E.2.1 4, 6, .inr (.inr (.inr (.inr (va_up (va_up (va_up (va_up (va_up (va_up (fun _ => none) 0 (some q2)) 1 (some q3)) 2 (some q4)) 3 (some q5)) 4 (some q6)) 5 (some q7))))))), (q2, .inr (7, [])), (q3, .inr (0, [])), (q4, .inr (3, [])), (q5, .inr (1, [])), (q6, .inr (9, [])), (q7, .inr (2, [])), (q8, .inl (E.2.1 0, 10, .inl (fun _ => nI 0))), (q9, .inl (E.2.1 0, 10, .inl (fun _ => nI 0)))] (.array .int) inX6 tyX6_ok nmX6 m1_188 dX6_init_86 rfl rfl (by decide) rfl rfl (by decide +kernel) rfl rfl (Nat.le_of_ble_eq_true rfl) rfl ?_
  refine g_aload_n hC dX6_init_89 rfl 0 rfl ?_
  refine g_bipush (v := nI 10) hC dX6_init_90 (by decide) ?_
  refine g_newa (atype := .int) hC 0 (ty := .int) 10 m1_91 rfl rfl (fun _ _ h => h) (fun _ => rfl) (by decide) (by decide) (by rw [hMc]; decide) (by rw [hMs]; decide) dX6_init_92 (fun q10 hC => ?_)
  show G (kS K 10 36) E 1 [(b, .inr (6, [.ref q1, .ref q8, .ref q9, .null])), (q1, .inl (E.2.1 4, 6, .inr (.inr (.inr (.inr (va_up (va_up (va_up (va_up (va_up (va_up (fun _ => none) 0 (some q2)) 1 (some q3)) 2 (some q4)) 3 (some q5)) 4 (some q6)) 5 (some q7))))))), (q2, .inr (7, [])), (q3, .inr (0, [])), (q4, .inr (3, [])), (q5, .inr (1, [])), (q6, .inr (9, [])), (q7, .inr (2, [])), (q8, .inl (E.2.1 0, 10, .inl (fun _ => nI 0))), (q9, .inl (E.2.1 0, 10, .inl (fun _ => nI 0))), (q10, .inl (E.2.1 0, 10, .inl (fun _ => nI 0)))] [(0, .ref b)] 94 [.ref q10, .ref b]
  refine g_putF hC hI 0 6 3 [(b, .inr (6, [.ref q1, .ref q8, .ref q9, .ref q10])), (q1, .inl (E.2.1 4, 6, .inr (.inr (.inr (.inr (va_up (va_up (va_up (va_up (va_up (va_up (fun _ => none) 0 (some q2)) 1 (some q3)) 2 (some q4)) 3 (some q5)) 4 (some q6)) 5 (some q7))))))), (q2, .inr (7, [])), (q3, .inr (0, [])), (q4, .inr (3, [])), (q5, .inr (1, [])), (q6, .inr (9, [])), (q7, .inr (2, [])), (q8, .inl (E.2.1 0, 10, .inl (fun _ => nI 0))), (q9, .inl (E.2.1 0, 10, .inl (fun _ => nI 0))), (q10, .inl (E.2.1 0, 10, .inl (fun _ => nI 0)))] (.array .int) inX6 tyX6_ok nmX6 m1_189 dX6_init_94 rfl rfl (by decide) rfl rfl (by decide +kernel) rfl rfl (Nat.le_of_ble_eq_true rfl) rfl ?_
  refine g_arrQ 1 [(b, .inr (6, [.ref q1, .ref q8, .ref q9, .ref q10])), (q1, .inl (E.2.1 4, 6, .inr (.inr (.inr (.inr (fun j => some (([0, 0, 0, 0, 0, 0, 0, b, q1, q8, q9, q10, 0, 0, q2, q3, q4, q5, q6, q7] : List Nat).getD (14 + j) 0))))))), (q2, .inr (7, [])), (q3, .inr (0, [])), (q4, .inr (3, [])), (q5, .inr (1, [])), (q6, .inr (9, [])), (q7, .inr (2, [])), (q8, .inl (E.2.1 0, 10, .inl (fun _ => nI 0))), (q9, .inl (E.2.1 0, 10, .inl (fun _ => nI 0))), (q10, .inl (E.2.1 0, 10, .inl (fun _ => nI 0)))] (fun j => some (([0, 0, 0, 0, 0, 0, 0, b, q1, q8, q9, q10, 0, 0, q2, q3, q4, q5, q6, q7] : List Nat).getD (14 + j) 0)) rfl (fun j hj => by rcases (show j = 0 ∨ j = 1 ∨ j = 2 ∨ j = 3 ∨ j = 4 ∨ j = 5 by omega) with rfl | rfl | rfl | rfl | rfl | rfl <;> rfl) rfl ?_
  refine g_sel [0, 1, 8, 9, 10, 2, 3, 4, 5, 6, 7] [(b, .inr (6, [.ref q1, .ref q8, .ref q9, .ref q10])), (q1, .inl (E.2.1 4, 6, .inr (.inr (.inr (.inr (fun j => some (([0, 0, 0, 0, 0, 0, 0, b, q1, q8, q9, q10, 0, 0, q2, q3, q4, q5, q6, q7] : List Nat).getD (14 + j) 0))))))), (q8, .inl (E.2.1 0, 10, .inl (fun _ => nI 0))), (q9, .inl (E.2.1 0, 10, .inl (fun _ => nI 0))), (q10, .inl (E.2.1 0, 10, .inl (fun _ => nI 0))), (q2, .inr (7, [])), (q3, .inr (0, [])), (q4, .inr (3, [])), (q5, .inr (1, [])), (q6, .inr (9, [])), (q7, .inr (2, []))] rfl rfl ?_
  exact hR _ _ _ ⟨fun i => ([0, 0, 0, 0, 0, 0, 0, b, q1, q8, q9, q10, 0, 0, q2, q3, q4, q5, q6, q7] : List Nat).getD i 0, rfl, rfl⟩ dX6_init_97
