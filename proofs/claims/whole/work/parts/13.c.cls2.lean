theorem g_ldcw {K : Kx} {E : Ew} {cc : ByteArray} {nL d pc : Nat} {own : String} {ws : va_W} {lv : List (Nat × Value)} {st : List Value} (hC : Cx K E cc nL own d) {v : Int32} {index : Nat} (hd : decode cc pc = .ok (.ldc_w index, 3)) (hm : Cond.constant own index v ∈ lw_G) (k : G K E nL ws lv (pc + 3) (.int v :: st)) : G K E nL ws lv pc st := fun H locs ls hP hD hS hl => lv_ldcw hC.1 hC.2.1 hC.2.2.2.1 (hC.2.2.2.2.1 _ hm) hd (k H locs ls hP hD hS hl)
set_option maxRecDepth 100000 in
theorem bitc : ∀ x, x < 1024 → (((((((((nI x) - (((nI x).toUInt32 >>> ((nI 1).toUInt32 &&& Int32.toUInt32 31)).toInt32 &&& (nI 1431655765))) &&& (nI 858993459)) + ((((nI x) - (((nI x).toUInt32 >>> ((nI 1).toUInt32 &&& Int32.toUInt32 31)).toInt32 &&& (nI 1431655765))).toUInt32 >>> ((nI 2).toUInt32 &&& Int32.toUInt32 31)).toInt32 &&& (nI 858993459))) + (((((nI x) - (((nI x).toUInt32 >>> ((nI 1).toUInt32 &&& Int32.toUInt32 31)).toInt32 &&& (nI 1431655765))) &&& (nI 858993459)) + ((((nI x) - (((nI x).toUInt32 >>> ((nI 1).toUInt32 &&& Int32.toUInt32 31)).toInt32 &&& (nI 1431655765))).toUInt32 >>> ((nI 2).toUInt32 &&& Int32.toUInt32 31)).toInt32 &&& (nI 858993459))).toUInt32 >>> ((nI 4).toUInt32 &&& Int32.toUInt32 31)).toInt32) &&& (nI 252645135)) + (((((((nI x) - (((nI x).toUInt32 >>> ((nI 1).toUInt32 &&& Int32.toUInt32 31)).toInt32 &&& (nI 1431655765))) &&& (nI 858993459)) + ((((nI x) - (((nI x).toUInt32 >>> ((nI 1).toUInt32 &&& Int32.toUInt32 31)).toInt32 &&& (nI 1431655765))).toUInt32 >>> ((nI 2).toUInt32 &&& Int32.toUInt32 31)).toInt32 &&& (nI 858993459))) + (((((nI x) - (((nI x).toUInt32 >>> ((nI 1).toUInt32 &&& Int32.toUInt32 31)).toInt32 &&& (nI 1431655765))) &&& (nI 858993459)) + ((((nI x) - (((nI x).toUInt32 >>> ((nI 1).toUInt32 &&& Int32.toUInt32 31)).toInt32 &&& (nI 1431655765))).toUInt32 >>> ((nI 2).toUInt32 &&& Int32.toUInt32 31)).toInt32 &&& (nI 858993459))).toUInt32 >>> ((nI 4).toUInt32 &&& Int32.toUInt32 31)).toInt32) &&& (nI 252645135)).toUInt32 >>> ((nI 8).toUInt32 &&& Int32.toUInt32 31)).toInt32) + ((((((((nI x) - (((nI x).toUInt32 >>> ((nI 1).toUInt32 &&& Int32.toUInt32 31)).toInt32 &&& (nI 1431655765))) &&& (nI 858993459)) + ((((nI x) - (((nI x).toUInt32 >>> ((nI 1).toUInt32 &&& Int32.toUInt32 31)).toInt32 &&& (nI 1431655765))).toUInt32 >>> ((nI 2).toUInt32 &&& Int32.toUInt32 31)).toInt32 &&& (nI 858993459))) + (((((nI x) - (((nI x).toUInt32 >>> ((nI 1).toUInt32 &&& Int32.toUInt32 31)).toInt32 &&& (nI 1431655765))) &&& (nI 858993459)) + ((((nI x) - (((nI x).toUInt32 >>> ((nI 1).toUInt32 &&& Int32.toUInt32 31)).toInt32 &&& (nI 1431655765))).toUInt32 >>> ((nI 2).toUInt32 &&& Int32.toUInt32 31)).toInt32 &&& (nI 858993459))).toUInt32 >>> ((nI 4).toUInt32 &&& Int32.toUInt32 31)).toInt32) &&& (nI 252645135)) + (((((((nI x) - (((nI x).toUInt32 >>> ((nI 1).toUInt32 &&& Int32.toUInt32 31)).toInt32 &&& (nI 1431655765))) &&& (nI 858993459)) + ((((nI x) - (((nI x).toUInt32 >>> ((nI 1).toUInt32 &&& Int32.toUInt32 31)).toInt32 &&& (nI 1431655765))).toUInt32 >>> ((nI 2).toUInt32 &&& Int32.toUInt32 31)).toInt32 &&& (nI 858993459))) + (((((nI x) - (((nI x).toUInt32 >>> ((nI 1).toUInt32 &&& Int32.toUInt32 31)).toInt32 &&& (nI 1431655765))) &&& (nI 858993459)) + ((((nI x) - (((nI x).toUInt32 >>> ((nI 1).toUInt32 &&& Int32.toUInt32 31)).toInt32 &&& (nI 1431655765))).toUInt32 >>> ((nI 2).toUInt32 &&& Int32.toUInt32 31)).toInt32 &&& (nI 858993459))).toUInt32 >>> ((nI 4).toUInt32 &&& Int32.toUInt32 31)).toInt32) &&& (nI 252645135)).toUInt32 >>> ((nI 8).toUInt32 &&& Int32.toUInt32 31)).toInt32).toUInt32 >>> ((nI 16).toUInt32 &&& Int32.toUInt32 31)).toInt32) &&& (nI 63)) = nI (ct x.testBit 31) := by decide +kernel
theorem le_N {a b : Nat} (ha : a < 2147483648) (hb : b < 2147483648) : decide (nI a ≤ nI b) = decide (a ≤ b) := by
  by_cases h : a ≤ b
  · simp [h, (nI_leI ha hb).mpr h]
  · simp [h, mt (nI_leI ha hb).mp h]
theorem tk_0 {far : Nat} {be no ev : Bool} (h : far < 1000) : tk 0 far be no ev = decide (nI far ≤ 3) := by
  rw [show (3 : Int32) = nI 3 from rfl, le_N (by omega) (by decide)]; rfl
theorem tk_1 {far : Nat} {be no ev : Bool} (h : far < 1000) : tk 1 far be no ev = (be && decide (nI far ≤ 3)) := by
  rw [show (3 : Int32) = nI 3 from rfl, le_N (by omega) (by decide), Bool.and_comm]; rfl
theorem tk_2 {far : Nat} {be no ev : Bool} (h : far < 1000) : tk 2 far be no ev = decide (nI far + nI 2 ≤ 3) := by
  rw [show (3 : Int32) = nI 3 from rfl, nI_add, le_N (by omega) (by decide)]
  show decide (far ≤ 1) = _
  by_cases q : far ≤ 1
  · simp [q] <;> omega
  · simp [q] <;> omega
theorem sub3 {far : Nat} (h : far < 1000) : decide (nI far - nI 3 ≤ (3 : Int32)) = decide (far ≤ 6) := by
  have e : (nI far - nI 3 ≤ (3 : Int32)) ↔ far ≤ 6 := by
    rw [fa_le, pk_sub_toInt (show far < 2 ^ 30 by omega) (by decide)]
    have : (3 : Int32).toInt = 3 := by decide
    rw [this]; omega
  by_cases q : far ≤ 6
  · simp [q, e.mpr q]
  · simp [q, mt e.mp q]
theorem tk_3 {far : Nat} {be no ev : Bool} (h : far < 1000) : tk 3 far be no ev = decide (nI far - nI 3 ≤ 3) := by rw [sub3 h]; rfl
theorem tk_4 {far : Nat} {be no ev : Bool} (h : far < 1000) : tk 4 far be no ev = (ev && decide (nI far - nI 3 ≤ 3)) := by rw [sub3 h, Bool.and_comm]; rfl
theorem tk_5 {far : Nat} {be no ev : Bool} (h : far < 1000) : tk 5 far be no ev = ((be && decide (nI far ≤ 3)) || (no && decide (nI far ≤ 6))) := by
  rw [show (3 : Int32) = nI 3 from rfl, show (6 : Int32) = nI 6 from rfl, le_N (by omega) (by decide), le_N (by omega) (by decide), Bool.and_comm be]; rfl

set_option maxHeartbeats 4000000 in
set_option maxRecDepth 100000 in
theorem f_J6_bitCount_0f7a4 (l : Launch) (E : Ew) (x : Nat) (hx : x < 1024) : Fn l E 0 yJ6_bitCount_0f7a4 cJ6_bitCount_0f7a4 1 (some .int) [.int (nI x)] [] (some (.int (nI (ct x.testBit 31)))) [] := by
  refine fn_I (by decide) (Nat.le_of_ble_eq_true rfl) rfl ?_
  intro K hC hR
  show G K E 1 [] [(0, .int (nI x))] 0 []
  refine g_iload_n hC dJ6_bitCount_0f7a4_0 rfl 0 rfl ?_
  refine g_iload_n hC dJ6_bitCount_0f7a4_1 rfl 0 rfl ?_
  refine g_iconst (v := (nI 1)) hC dJ6_bitCount_0f7a4_2 (by decide) ?_
  refine g_iushr hC dJ6_bitCount_0f7a4_3 ?_
  refine g_ldcw (v := nI 1431655765) hC dJ6_bitCount_0f7a4_4 m3_14 ?_
  refine g_iand hC dJ6_bitCount_0f7a4_7 ?_
  refine g_isub hC dJ6_bitCount_0f7a4_8 ?_
  refine g_istore_n hC [(0, .int ((nI x) - ((((nI x).toUInt32 >>> ((nI 1).toUInt32 &&& Int32.toUInt32 31)).toInt32) &&& (nI 1431655765))))] dJ6_bitCount_0f7a4_9 rfl (by decide) rfl ?_
  refine g_iload_n hC dJ6_bitCount_0f7a4_10 rfl 0 rfl ?_
  refine g_ldcw (v := nI 858993459) hC dJ6_bitCount_0f7a4_11 m3_15 ?_
  refine g_iand hC dJ6_bitCount_0f7a4_14 ?_
  refine g_iload_n hC dJ6_bitCount_0f7a4_15 rfl 0 rfl ?_
  refine g_iconst (v := (nI 2)) hC dJ6_bitCount_0f7a4_16 (by decide) ?_
  refine g_iushr hC dJ6_bitCount_0f7a4_17 ?_
  refine g_ldcw (v := nI 858993459) hC dJ6_bitCount_0f7a4_18 m3_15 ?_
  refine g_iand hC dJ6_bitCount_0f7a4_21 ?_
  refine g_iadd hC dJ6_bitCount_0f7a4_22 ?_
  refine g_istore_n hC [(0, .int ((((nI x) - ((((nI x).toUInt32 >>> ((nI 1).toUInt32 &&& Int32.toUInt32 31)).toInt32) &&& (nI 1431655765))) &&& (nI 858993459)) + (((((nI x) - ((((nI x).toUInt32 >>> ((nI 1).toUInt32 &&& Int32.toUInt32 31)).toInt32) &&& (nI 1431655765))).toUInt32 >>> ((nI 2).toUInt32 &&& Int32.toUInt32 31)).toInt32) &&& (nI 858993459))))] dJ6_bitCount_0f7a4_23 rfl (by decide) rfl ?_
  refine g_iload_n hC dJ6_bitCount_0f7a4_24 rfl 0 rfl ?_
  refine g_iload_n hC dJ6_bitCount_0f7a4_25 rfl 0 rfl ?_
  refine g_iconst (v := (nI 4)) hC dJ6_bitCount_0f7a4_26 (by decide) ?_
  refine g_iushr hC dJ6_bitCount_0f7a4_27 ?_
  refine g_iadd hC dJ6_bitCount_0f7a4_28 ?_
  refine g_ldcw (v := nI 252645135) hC dJ6_bitCount_0f7a4_29 m3_16 ?_
  refine g_iand hC dJ6_bitCount_0f7a4_32 ?_
  refine g_istore_n hC [(0, .int ((((((nI x) - ((((nI x).toUInt32 >>> ((nI 1).toUInt32 &&& Int32.toUInt32 31)).toInt32) &&& (nI 1431655765))) &&& (nI 858993459)) + (((((nI x) - ((((nI x).toUInt32 >>> ((nI 1).toUInt32 &&& Int32.toUInt32 31)).toInt32) &&& (nI 1431655765))).toUInt32 >>> ((nI 2).toUInt32 &&& Int32.toUInt32 31)).toInt32) &&& (nI 858993459))) + ((((((nI x) - ((((nI x).toUInt32 >>> ((nI 1).toUInt32 &&& Int32.toUInt32 31)).toInt32) &&& (nI 1431655765))) &&& (nI 858993459)) + (((((nI x) - ((((nI x).toUInt32 >>> ((nI 1).toUInt32 &&& Int32.toUInt32 31)).toInt32) &&& (nI 1431655765))).toUInt32 >>> ((nI 2).toUInt32 &&& Int32.toUInt32 31)).toInt32) &&& (nI 858993459))).toUInt32 >>> ((nI 4).toUInt32 &&& Int32.toUInt32 31)).toInt32)) &&& (nI 252645135)))] dJ6_bitCount_0f7a4_33 rfl (by decide) rfl ?_
  refine g_iload_n hC dJ6_bitCount_0f7a4_34 rfl 0 rfl ?_
  refine g_iload_n hC dJ6_bitCount_0f7a4_35 rfl 0 rfl ?_
  refine g_bipush (v := (nI 8)) hC dJ6_bitCount_0f7a4_36 (by decide) ?_
  refine g_iushr hC dJ6_bitCount_0f7a4_38 ?_
  refine g_iadd hC dJ6_bitCount_0f7a4_39 ?_
  refine g_istore_n hC [(0, .int (((((((nI x) - ((((nI x).toUInt32 >>> ((nI 1).toUInt32 &&& Int32.toUInt32 31)).toInt32) &&& (nI 1431655765))) &&& (nI 858993459)) + (((((nI x) - ((((nI x).toUInt32 >>> ((nI 1).toUInt32 &&& Int32.toUInt32 31)).toInt32) &&& (nI 1431655765))).toUInt32 >>> ((nI 2).toUInt32 &&& Int32.toUInt32 31)).toInt32) &&& (nI 858993459))) + ((((((nI x) - ((((nI x).toUInt32 >>> ((nI 1).toUInt32 &&& Int32.toUInt32 31)).toInt32) &&& (nI 1431655765))) &&& (nI 858993459)) + (((((nI x) - ((((nI x).toUInt32 >>> ((nI 1).toUInt32 &&& Int32.toUInt32 31)).toInt32) &&& (nI 1431655765))).toUInt32 >>> ((nI 2).toUInt32 &&& Int32.toUInt32 31)).toInt32) &&& (nI 858993459))).toUInt32 >>> ((nI 4).toUInt32 &&& Int32.toUInt32 31)).toInt32)) &&& (nI 252645135)) + ((((((((nI x) - ((((nI x).toUInt32 >>> ((nI 1).toUInt32 &&& Int32.toUInt32 31)).toInt32) &&& (nI 1431655765))) &&& (nI 858993459)) + (((((nI x) - ((((nI x).toUInt32 >>> ((nI 1).toUInt32 &&& Int32.toUInt32 31)).toInt32) &&& (nI 1431655765))).toUInt32 >>> ((nI 2).toUInt32 &&& Int32.toUInt32 31)).toInt32) &&& (nI 858993459))) + ((((((nI x) - ((((nI x).toUInt32 >>> ((nI 1).toUInt32 &&& Int32.toUInt32 31)).toInt32) &&& (nI 1431655765))) &&& (nI 858993459)) + (((((nI x) - ((((nI x).toUInt32 >>> ((nI 1).toUInt32 &&& Int32.toUInt32 31)).toInt32) &&& (nI 1431655765))).toUInt32 >>> ((nI 2).toUInt32 &&& Int32.toUInt32 31)).toInt32) &&& (nI 858993459))).toUInt32 >>> ((nI 4).toUInt32 &&& Int32.toUInt32 31)).toInt32)) &&& (nI 252645135)).toUInt32 >>> ((nI 8).toUInt32 &&& Int32.toUInt32 31)).toInt32)))] dJ6_bitCount_0f7a4_40 rfl (by decide) rfl ?_
  refine g_iload_n hC dJ6_bitCount_0f7a4_41 rfl 0 rfl ?_
  refine g_iload_n hC dJ6_bitCount_0f7a4_42 rfl 0 rfl ?_
  refine g_bipush (v := (nI 16)) hC dJ6_bitCount_0f7a4_43 (by decide) ?_
  refine g_iushr hC dJ6_bitCount_0f7a4_45 ?_
  refine g_iadd hC dJ6_bitCount_0f7a4_46 ?_
  refine g_istore_n hC [(0, .int ((((((((nI x) - ((((nI x).toUInt32 >>> ((nI 1).toUInt32 &&& Int32.toUInt32 31)).toInt32) &&& (nI 1431655765))) &&& (nI 858993459)) + (((((nI x) - ((((nI x).toUInt32 >>> ((nI 1).toUInt32 &&& Int32.toUInt32 31)).toInt32) &&& (nI 1431655765))).toUInt32 >>> ((nI 2).toUInt32 &&& Int32.toUInt32 31)).toInt32) &&& (nI 858993459))) + ((((((nI x) - ((((nI x).toUInt32 >>> ((nI 1).toUInt32 &&& Int32.toUInt32 31)).toInt32) &&& (nI 1431655765))) &&& (nI 858993459)) + (((((nI x) - ((((nI x).toUInt32 >>> ((nI 1).toUInt32 &&& Int32.toUInt32 31)).toInt32) &&& (nI 1431655765))).toUInt32 >>> ((nI 2).toUInt32 &&& Int32.toUInt32 31)).toInt32) &&& (nI 858993459))).toUInt32 >>> ((nI 4).toUInt32 &&& Int32.toUInt32 31)).toInt32)) &&& (nI 252645135)) + ((((((((nI x) - ((((nI x).toUInt32 >>> ((nI 1).toUInt32 &&& Int32.toUInt32 31)).toInt32) &&& (nI 1431655765))) &&& (nI 858993459)) + (((((nI x) - ((((nI x).toUInt32 >>> ((nI 1).toUInt32 &&& Int32.toUInt32 31)).toInt32) &&& (nI 1431655765))).toUInt32 >>> ((nI 2).toUInt32 &&& Int32.toUInt32 31)).toInt32) &&& (nI 858993459))) + ((((((nI x) - ((((nI x).toUInt32 >>> ((nI 1).toUInt32 &&& Int32.toUInt32 31)).toInt32) &&& (nI 1431655765))) &&& (nI 858993459)) + (((((nI x) - ((((nI x).toUInt32 >>> ((nI 1).toUInt32 &&& Int32.toUInt32 31)).toInt32) &&& (nI 1431655765))).toUInt32 >>> ((nI 2).toUInt32 &&& Int32.toUInt32 31)).toInt32) &&& (nI 858993459))).toUInt32 >>> ((nI 4).toUInt32 &&& Int32.toUInt32 31)).toInt32)) &&& (nI 252645135)).toUInt32 >>> ((nI 8).toUInt32 &&& Int32.toUInt32 31)).toInt32)) + (((((((((nI x) - ((((nI x).toUInt32 >>> ((nI 1).toUInt32 &&& Int32.toUInt32 31)).toInt32) &&& (nI 1431655765))) &&& (nI 858993459)) + (((((nI x) - ((((nI x).toUInt32 >>> ((nI 1).toUInt32 &&& Int32.toUInt32 31)).toInt32) &&& (nI 1431655765))).toUInt32 >>> ((nI 2).toUInt32 &&& Int32.toUInt32 31)).toInt32) &&& (nI 858993459))) + ((((((nI x) - ((((nI x).toUInt32 >>> ((nI 1).toUInt32 &&& Int32.toUInt32 31)).toInt32) &&& (nI 1431655765))) &&& (nI 858993459)) + (((((nI x) - ((((nI x).toUInt32 >>> ((nI 1).toUInt32 &&& Int32.toUInt32 31)).toInt32) &&& (nI 1431655765))).toUInt32 >>> ((nI 2).toUInt32 &&& Int32.toUInt32 31)).toInt32) &&& (nI 858993459))).toUInt32 >>> ((nI 4).toUInt32 &&& Int32.toUInt32 31)).toInt32)) &&& (nI 252645135)) + ((((((((nI x) - ((((nI x).toUInt32 >>> ((nI 1).toUInt32 &&& Int32.toUInt32 31)).toInt32) &&& (nI 1431655765))) &&& (nI 858993459)) + (((((nI x) - ((((nI x).toUInt32 >>> ((nI 1).toUInt32 &&& Int32.toUInt32 31)).toInt32) &&& (nI 1431655765))).toUInt32 >>> ((nI 2).toUInt32 &&& Int32.toUInt32 31)).toInt32) &&& (nI 858993459))) + ((((((nI x) - ((((nI x).toUInt32 >>> ((nI 1).toUInt32 &&& Int32.toUInt32 31)).toInt32) &&& (nI 1431655765))) &&& (nI 858993459)) + (((((nI x) - ((((nI x).toUInt32 >>> ((nI 1).toUInt32 &&& Int32.toUInt32 31)).toInt32) &&& (nI 1431655765))).toUInt32 >>> ((nI 2).toUInt32 &&& Int32.toUInt32 31)).toInt32) &&& (nI 858993459))).toUInt32 >>> ((nI 4).toUInt32 &&& Int32.toUInt32 31)).toInt32)) &&& (nI 252645135)).toUInt32 >>> ((nI 8).toUInt32 &&& Int32.toUInt32 31)).toInt32)).toUInt32 >>> ((nI 16).toUInt32 &&& Int32.toUInt32 31)).toInt32)))] dJ6_bitCount_0f7a4_47 rfl (by decide) rfl ?_
  refine g_iload_n hC dJ6_bitCount_0f7a4_48 rfl 0 rfl ?_
  refine g_bipush (v := (nI 63)) hC dJ6_bitCount_0f7a4_49 (by decide) ?_
  refine g_iand hC dJ6_bitCount_0f7a4_51 ?_
  exact g_val (by rw [bitc x hx]) (g_ws (rfl) (hR _ _ dJ6_bitCount_0f7a4_52))
set_option maxHeartbeats 4000000 in
set_option maxRecDepth 100000 in
theorem f_X6_turnsAs0 (l : Launch) (E : Ew) (x : Nat → Nat) (far : Nat) (be : Bool) (no : Bool) (da : Int32) (hf : far < 1000) : Fn l E 3 yX6_turnsAs cX6_turnsAs 6 (some .boolean) [.ref (x 7), .int (nI 0), .int (nI far), .int (bI be), .int (bI no), .int da] [(x 7, .inr (6, oG x)), (x 8, .inl (E.2.1 4, 6, .inr (.inr (.inr (.inr (fun j => some (x (14 + j)))))))), (x 14, .inr (7, [])), (x 15, .inr (0, [])), (x 16, .inr (3, [])), (x 17, .inr (1, [])), (x 18, .inr (9, [])), (x 19, .inr (2, []))] (some (.int (bI (tk 0 far be no (evn da))))) [(x 7, .inr (6, oG x)), (x 8, .inl (E.2.1 4, 6, .inr (.inr (.inr (.inr (fun j => some (x (14 + j)))))))), (x 14, .inr (7, [])), (x 15, .inr (0, [])), (x 16, .inr (3, [])), (x 17, .inr (1, [])), (x 18, .inr (9, [])), (x 19, .inr (2, []))] := by
  refine fn_Z (by decide) (Nat.le_of_ble_eq_true rfl) rfl (nar_bI _) ?_
  intro K hC hR
  show G K E 6 [(x 7, .inr (6, oG x)), (x 8, .inl (E.2.1 4, 6, .inr (.inr (.inr (.inr (fun j => some (x (14 + j)))))))), (x 14, .inr (7, [])), (x 15, .inr (0, [])), (x 16, .inr (3, [])), (x 17, .inr (1, [])), (x 18, .inr (9, [])), (x 19, .inr (2, []))] [(0, .ref (x 7)), (1, .int (nI 0)), (2, .int (nI far)), (3, .int (bI be)), (4, .int (bI no)), (5, .int da)] 0 []
  refine g_iload_n hC dX6_turnsAs_0 rfl 1 rfl ?_
  refine g_aload_n hC dX6_turnsAs_1 rfl 0 rfl ?_
  refine g_get hC 0 6 0 inX6 m1_186 dX6_turnsAs_2 rfl rfl (by decide) rfl ?_
  refine g_alen hC 1 4 dX6_turnsAs_5 rfl rfl ?_
  refine g_callSN hC (f_X11_within (kl K) E (nI 0) 6 (by omega)) wX11_within (List.mem_of_getElem? (i := 17) rfl) dX6_turnsAs_6 [] [(x 7, .inr (6, oG x)), (x 8, .inl (E.2.1 4, 6, .inr (.inr (.inr (.inr (fun j => some (x (14 + j)))))))), (x 14, .inr (7, [])), (x 15, .inr (0, [])), (x 16, .inr (3, [])), (x 17, .inr (1, [])), (x 18, .inr (9, [])), (x 19, .inr (2, []))] (by decide) rfl (Nat.le_of_ble_eq_true rfl) rfl rfl rfl rfl rfl ?_
  refine g_if_eqB (tgt := 34) hC dX6_turnsAs_9 (by decide) (fun h_9 => ?_) (fun h_9 => ?_)
  · exact Bool.noConfusion ((inB_ok (by omega) (by omega)).symm.trans h_9)
  · refine g_aload_n hC dX6_turnsAs_12 rfl 0 rfl ?_
    refine g_get hC 0 6 0 inX6 m1_186 dX6_turnsAs_13 rfl rfl (by decide) rfl ?_
    refine g_iload_n hC dX6_turnsAs_16 rfl 1 rfl ?_
    refine g_aald hC 1 4 dX6_turnsAs_17 rfl rfl (by decide) (by omega) (rfl) ?_
    refine g_iload_n hC dX6_turnsAs_18 rfl 2 rfl ?_
    refine g_iload_n hC dX6_turnsAs_19 rfl 3 rfl ?_
    refine g_iload hC dX6_turnsAs_20 4 rfl ?_
    refine g_iload hC dX6_turnsAs_22 5 rfl ?_
    refine g_callV hC (f_X7_turns (kl K) E (x 14) (nI far) be no da) wX7_turns m2_176 dX6_turnsAs_24 [] [(x 7, .inr (6, oG x)), (x 8, .inl (E.2.1 4, 6, .inr (.inr (.inr (.inr (fun j => some (x (14 + j)))))))), (x 14, .inr (7, [])), (x 15, .inr (0, [])), (x 16, .inr (3, [])), (x 17, .inr (1, [])), (x 18, .inr (9, [])), (x 19, .inr (2, []))] 2 7 rfl rfl (by decide) rfl (Nat.le_of_ble_eq_true rfl) rfl rfl rfl rfl rfl ?_
    refine g_if_eqB (tgt := 34) hC dX6_turnsAs_27 (by decide) (fun h_27 => ?_) (fun h_27 => ?_)
    · refine g_iconst (v := (nI 0)) hC dX6_turnsAs_34 (by decide) ?_
      exact g_val (bI_0e (by rw [← h_27]; exact tk_0 hf)) (g_ws (rfl) (hR _ _ dX6_turnsAs_35))
    · refine g_iconst (v := (nI 1)) hC dX6_turnsAs_30 (by decide) ?_
      refine g_goto (tgt := 35) hC dX6_turnsAs_31 (by decide) ?_
      exact g_val (bI_1e (by rw [← h_27]; exact tk_0 hf)) (g_ws (rfl) (hR _ _ dX6_turnsAs_35))
set_option maxHeartbeats 4000000 in
set_option maxRecDepth 100000 in
theorem f_X6_turnsAs1 (l : Launch) (E : Ew) (x : Nat → Nat) (far : Nat) (be : Bool) (no : Bool) (da : Int32) (hf : far < 1000) : Fn l E 3 yX6_turnsAs cX6_turnsAs 6 (some .boolean) [.ref (x 7), .int (nI 1), .int (nI far), .int (bI be), .int (bI no), .int da] [(x 7, .inr (6, oG x)), (x 8, .inl (E.2.1 4, 6, .inr (.inr (.inr (.inr (fun j => some (x (14 + j)))))))), (x 14, .inr (7, [])), (x 15, .inr (0, [])), (x 16, .inr (3, [])), (x 17, .inr (1, [])), (x 18, .inr (9, [])), (x 19, .inr (2, []))] (some (.int (bI (tk 1 far be no (evn da))))) [(x 7, .inr (6, oG x)), (x 8, .inl (E.2.1 4, 6, .inr (.inr (.inr (.inr (fun j => some (x (14 + j)))))))), (x 14, .inr (7, [])), (x 15, .inr (0, [])), (x 16, .inr (3, [])), (x 17, .inr (1, [])), (x 18, .inr (9, [])), (x 19, .inr (2, []))] := by
  refine fn_Z (by decide) (Nat.le_of_ble_eq_true rfl) rfl (nar_bI _) ?_
  intro K hC hR
  show G K E 6 [(x 7, .inr (6, oG x)), (x 8, .inl (E.2.1 4, 6, .inr (.inr (.inr (.inr (fun j => some (x (14 + j)))))))), (x 14, .inr (7, [])), (x 15, .inr (0, [])), (x 16, .inr (3, [])), (x 17, .inr (1, [])), (x 18, .inr (9, [])), (x 19, .inr (2, []))] [(0, .ref (x 7)), (1, .int (nI 1)), (2, .int (nI far)), (3, .int (bI be)), (4, .int (bI no)), (5, .int da)] 0 []
  refine g_iload_n hC dX6_turnsAs_0 rfl 1 rfl ?_
  refine g_aload_n hC dX6_turnsAs_1 rfl 0 rfl ?_
  refine g_get hC 0 6 0 inX6 m1_186 dX6_turnsAs_2 rfl rfl (by decide) rfl ?_
  refine g_alen hC 1 4 dX6_turnsAs_5 rfl rfl ?_
  refine g_callSN hC (f_X11_within (kl K) E (nI 1) 6 (by omega)) wX11_within (List.mem_of_getElem? (i := 17) rfl) dX6_turnsAs_6 [] [(x 7, .inr (6, oG x)), (x 8, .inl (E.2.1 4, 6, .inr (.inr (.inr (.inr (fun j => some (x (14 + j)))))))), (x 14, .inr (7, [])), (x 15, .inr (0, [])), (x 16, .inr (3, [])), (x 17, .inr (1, [])), (x 18, .inr (9, [])), (x 19, .inr (2, []))] (by decide) rfl (Nat.le_of_ble_eq_true rfl) rfl rfl rfl rfl rfl ?_
  refine g_if_eqB (tgt := 34) hC dX6_turnsAs_9 (by decide) (fun h_9 => ?_) (fun h_9 => ?_)
  · exact Bool.noConfusion ((inB_ok (by omega) (by omega)).symm.trans h_9)
  · refine g_aload_n hC dX6_turnsAs_12 rfl 0 rfl ?_
    refine g_get hC 0 6 0 inX6 m1_186 dX6_turnsAs_13 rfl rfl (by decide) rfl ?_
    refine g_iload_n hC dX6_turnsAs_16 rfl 1 rfl ?_
    refine g_aald hC 1 4 dX6_turnsAs_17 rfl rfl (by decide) (by omega) (rfl) ?_
    refine g_iload_n hC dX6_turnsAs_18 rfl 2 rfl ?_
    refine g_iload_n hC dX6_turnsAs_19 rfl 3 rfl ?_
    refine g_iload hC dX6_turnsAs_20 4 rfl ?_
    refine g_iload hC dX6_turnsAs_22 5 rfl ?_
    refine g_callU (n := 4) hC (f_X0_turns (kl K) E (x 15) (nI far) be no da) m2_176 m2_179 m2_177 m2_180 m2_181 m1_7 m2_182 m2_200 (by decide) (by decide +kernel) dX6_turnsAs_24 [3] [(x 7, .inr (6, oG x)), (x 8, .inl (E.2.1 4, 6, .inr (.inr (.inr (.inr (fun j => some (x (14 + j)))))))), (x 14, .inr (7, [])), (x 15, .inr (0, [])), (x 16, .inr (3, [])), (x 17, .inr (1, [])), (x 18, .inr (9, [])), (x 19, .inr (2, []))] 3 0 rfl rfl (by decide) rfl (Nat.le_of_ble_eq_true rfl) rfl rfl rfl rfl rfl ?_
    refine g_if_eqB (tgt := 34) hC dX6_turnsAs_27 (by decide) (fun h_27 => ?_) (fun h_27 => ?_)
    · refine g_iconst (v := (nI 0)) hC dX6_turnsAs_34 (by decide) ?_
      exact g_val (bI_0e (by rw [← h_27]; exact tk_1 hf)) (g_ws (rfl) (hR _ _ dX6_turnsAs_35))
    · refine g_iconst (v := (nI 1)) hC dX6_turnsAs_30 (by decide) ?_
      refine g_goto (tgt := 35) hC dX6_turnsAs_31 (by decide) ?_
      exact g_val (bI_1e (by rw [← h_27]; exact tk_1 hf)) (g_ws (rfl) (hR _ _ dX6_turnsAs_35))
set_option maxHeartbeats 4000000 in
set_option maxRecDepth 100000 in
theorem f_X6_turnsAs2 (l : Launch) (E : Ew) (x : Nat → Nat) (far : Nat) (be : Bool) (no : Bool) (da : Int32) (hf : far < 1000) : Fn l E 3 yX6_turnsAs cX6_turnsAs 6 (some .boolean) [.ref (x 7), .int (nI 2), .int (nI far), .int (bI be), .int (bI no), .int da] [(x 7, .inr (6, oG x)), (x 8, .inl (E.2.1 4, 6, .inr (.inr (.inr (.inr (fun j => some (x (14 + j)))))))), (x 14, .inr (7, [])), (x 15, .inr (0, [])), (x 16, .inr (3, [])), (x 17, .inr (1, [])), (x 18, .inr (9, [])), (x 19, .inr (2, []))] (some (.int (bI (tk 2 far be no (evn da))))) [(x 7, .inr (6, oG x)), (x 8, .inl (E.2.1 4, 6, .inr (.inr (.inr (.inr (fun j => some (x (14 + j)))))))), (x 14, .inr (7, [])), (x 15, .inr (0, [])), (x 16, .inr (3, [])), (x 17, .inr (1, [])), (x 18, .inr (9, [])), (x 19, .inr (2, []))] := by
  refine fn_Z (by decide) (Nat.le_of_ble_eq_true rfl) rfl (nar_bI _) ?_
  intro K hC hR
  show G K E 6 [(x 7, .inr (6, oG x)), (x 8, .inl (E.2.1 4, 6, .inr (.inr (.inr (.inr (fun j => some (x (14 + j)))))))), (x 14, .inr (7, [])), (x 15, .inr (0, [])), (x 16, .inr (3, [])), (x 17, .inr (1, [])), (x 18, .inr (9, [])), (x 19, .inr (2, []))] [(0, .ref (x 7)), (1, .int (nI 2)), (2, .int (nI far)), (3, .int (bI be)), (4, .int (bI no)), (5, .int da)] 0 []
  refine g_iload_n hC dX6_turnsAs_0 rfl 1 rfl ?_
  refine g_aload_n hC dX6_turnsAs_1 rfl 0 rfl ?_
  refine g_get hC 0 6 0 inX6 m1_186 dX6_turnsAs_2 rfl rfl (by decide) rfl ?_
  refine g_alen hC 1 4 dX6_turnsAs_5 rfl rfl ?_
  refine g_callSN hC (f_X11_within (kl K) E (nI 2) 6 (by omega)) wX11_within (List.mem_of_getElem? (i := 17) rfl) dX6_turnsAs_6 [] [(x 7, .inr (6, oG x)), (x 8, .inl (E.2.1 4, 6, .inr (.inr (.inr (.inr (fun j => some (x (14 + j)))))))), (x 14, .inr (7, [])), (x 15, .inr (0, [])), (x 16, .inr (3, [])), (x 17, .inr (1, [])), (x 18, .inr (9, [])), (x 19, .inr (2, []))] (by decide) rfl (Nat.le_of_ble_eq_true rfl) rfl rfl rfl rfl rfl ?_
  refine g_if_eqB (tgt := 34) hC dX6_turnsAs_9 (by decide) (fun h_9 => ?_) (fun h_9 => ?_)
  · exact Bool.noConfusion ((inB_ok (by omega) (by omega)).symm.trans h_9)
  · refine g_aload_n hC dX6_turnsAs_12 rfl 0 rfl ?_
    refine g_get hC 0 6 0 inX6 m1_186 dX6_turnsAs_13 rfl rfl (by decide) rfl ?_
    refine g_iload_n hC dX6_turnsAs_16 rfl 1 rfl ?_
    refine g_aald hC 1 4 dX6_turnsAs_17 rfl rfl (by decide) (by omega) (rfl) ?_
    refine g_iload_n hC dX6_turnsAs_18 rfl 2 rfl ?_
    refine g_iload_n hC dX6_turnsAs_19 rfl 3 rfl ?_
    refine g_iload hC dX6_turnsAs_20 4 rfl ?_
    refine g_iload hC dX6_turnsAs_22 5 rfl ?_
    refine g_callU (n := 4) hC (f_X3_turns (kl K) E (x 16) (nI far) be no da) m2_176 m2_179 m2_177 m2_192 m2_193 m1_8 m2_194 m2_200 (by decide) (by decide +kernel) dX6_turnsAs_24 [4] [(x 7, .inr (6, oG x)), (x 8, .inl (E.2.1 4, 6, .inr (.inr (.inr (.inr (fun j => some (x (14 + j)))))))), (x 14, .inr (7, [])), (x 15, .inr (0, [])), (x 16, .inr (3, [])), (x 17, .inr (1, [])), (x 18, .inr (9, [])), (x 19, .inr (2, []))] 4 3 rfl rfl (by decide) rfl (Nat.le_of_ble_eq_true rfl) rfl rfl rfl rfl rfl ?_
    refine g_if_eqB (tgt := 34) hC dX6_turnsAs_27 (by decide) (fun h_27 => ?_) (fun h_27 => ?_)
    · refine g_iconst (v := (nI 0)) hC dX6_turnsAs_34 (by decide) ?_
      exact g_val (bI_0e (by rw [← h_27]; exact tk_2 hf)) (g_ws (rfl) (hR _ _ dX6_turnsAs_35))
    · refine g_iconst (v := (nI 1)) hC dX6_turnsAs_30 (by decide) ?_
      refine g_goto (tgt := 35) hC dX6_turnsAs_31 (by decide) ?_
      exact g_val (bI_1e (by rw [← h_27]; exact tk_2 hf)) (g_ws (rfl) (hR _ _ dX6_turnsAs_35))
set_option maxHeartbeats 4000000 in
set_option maxRecDepth 100000 in
theorem f_X6_turnsAs3 (l : Launch) (E : Ew) (x : Nat → Nat) (far : Nat) (be : Bool) (no : Bool) (da : Int32) (hf : far < 1000) : Fn l E 3 yX6_turnsAs cX6_turnsAs 6 (some .boolean) [.ref (x 7), .int (nI 3), .int (nI far), .int (bI be), .int (bI no), .int da] [(x 7, .inr (6, oG x)), (x 8, .inl (E.2.1 4, 6, .inr (.inr (.inr (.inr (fun j => some (x (14 + j)))))))), (x 14, .inr (7, [])), (x 15, .inr (0, [])), (x 16, .inr (3, [])), (x 17, .inr (1, [])), (x 18, .inr (9, [])), (x 19, .inr (2, []))] (some (.int (bI (tk 3 far be no (evn da))))) [(x 7, .inr (6, oG x)), (x 8, .inl (E.2.1 4, 6, .inr (.inr (.inr (.inr (fun j => some (x (14 + j)))))))), (x 14, .inr (7, [])), (x 15, .inr (0, [])), (x 16, .inr (3, [])), (x 17, .inr (1, [])), (x 18, .inr (9, [])), (x 19, .inr (2, []))] := by
  refine fn_Z (by decide) (Nat.le_of_ble_eq_true rfl) rfl (nar_bI _) ?_
  intro K hC hR
  show G K E 6 [(x 7, .inr (6, oG x)), (x 8, .inl (E.2.1 4, 6, .inr (.inr (.inr (.inr (fun j => some (x (14 + j)))))))), (x 14, .inr (7, [])), (x 15, .inr (0, [])), (x 16, .inr (3, [])), (x 17, .inr (1, [])), (x 18, .inr (9, [])), (x 19, .inr (2, []))] [(0, .ref (x 7)), (1, .int (nI 3)), (2, .int (nI far)), (3, .int (bI be)), (4, .int (bI no)), (5, .int da)] 0 []
  refine g_iload_n hC dX6_turnsAs_0 rfl 1 rfl ?_
  refine g_aload_n hC dX6_turnsAs_1 rfl 0 rfl ?_
  refine g_get hC 0 6 0 inX6 m1_186 dX6_turnsAs_2 rfl rfl (by decide) rfl ?_
  refine g_alen hC 1 4 dX6_turnsAs_5 rfl rfl ?_
  refine g_callSN hC (f_X11_within (kl K) E (nI 3) 6 (by omega)) wX11_within (List.mem_of_getElem? (i := 17) rfl) dX6_turnsAs_6 [] [(x 7, .inr (6, oG x)), (x 8, .inl (E.2.1 4, 6, .inr (.inr (.inr (.inr (fun j => some (x (14 + j)))))))), (x 14, .inr (7, [])), (x 15, .inr (0, [])), (x 16, .inr (3, [])), (x 17, .inr (1, [])), (x 18, .inr (9, [])), (x 19, .inr (2, []))] (by decide) rfl (Nat.le_of_ble_eq_true rfl) rfl rfl rfl rfl rfl ?_
  refine g_if_eqB (tgt := 34) hC dX6_turnsAs_9 (by decide) (fun h_9 => ?_) (fun h_9 => ?_)
  · exact Bool.noConfusion ((inB_ok (by omega) (by omega)).symm.trans h_9)
  · refine g_aload_n hC dX6_turnsAs_12 rfl 0 rfl ?_
    refine g_get hC 0 6 0 inX6 m1_186 dX6_turnsAs_13 rfl rfl (by decide) rfl ?_
    refine g_iload_n hC dX6_turnsAs_16 rfl 1 rfl ?_
    refine g_aald hC 1 4 dX6_turnsAs_17 rfl rfl (by decide) (by omega) (rfl) ?_
    refine g_iload_n hC dX6_turnsAs_18 rfl 2 rfl ?_
    refine g_iload_n hC dX6_turnsAs_19 rfl 3 rfl ?_
    refine g_iload hC dX6_turnsAs_20 4 rfl ?_
    refine g_iload hC dX6_turnsAs_22 5 rfl ?_
    refine g_callU (n := 4) hC (f_X1_turns (kl K) E (x 17) (nI far) be no da) m2_176 m2_179 m2_177 m2_184 m2_185 m1_9 m2_186 m2_200 (by decide) (by decide +kernel) dX6_turnsAs_24 [5] [(x 7, .inr (6, oG x)), (x 8, .inl (E.2.1 4, 6, .inr (.inr (.inr (.inr (fun j => some (x (14 + j)))))))), (x 14, .inr (7, [])), (x 15, .inr (0, [])), (x 16, .inr (3, [])), (x 17, .inr (1, [])), (x 18, .inr (9, [])), (x 19, .inr (2, []))] 5 1 rfl rfl (by decide) rfl (Nat.le_of_ble_eq_true rfl) rfl rfl rfl rfl rfl ?_
    refine g_if_eqB (tgt := 34) hC dX6_turnsAs_27 (by decide) (fun h_27 => ?_) (fun h_27 => ?_)
    · refine g_iconst (v := (nI 0)) hC dX6_turnsAs_34 (by decide) ?_
      exact g_val (bI_0e (by rw [← h_27]; exact tk_3 hf)) (g_ws (rfl) (hR _ _ dX6_turnsAs_35))
    · refine g_iconst (v := (nI 1)) hC dX6_turnsAs_30 (by decide) ?_
      refine g_goto (tgt := 35) hC dX6_turnsAs_31 (by decide) ?_
      exact g_val (bI_1e (by rw [← h_27]; exact tk_3 hf)) (g_ws (rfl) (hR _ _ dX6_turnsAs_35))
set_option maxHeartbeats 4000000 in
set_option maxRecDepth 100000 in
theorem f_X6_turnsAs4 (l : Launch) (E : Ew) (x : Nat → Nat) (far : Nat) (be : Bool) (no : Bool) (da : Int32) (hf : far < 1000) : Fn l E 3 yX6_turnsAs cX6_turnsAs 6 (some .boolean) [.ref (x 7), .int (nI 4), .int (nI far), .int (bI be), .int (bI no), .int da] [(x 7, .inr (6, oG x)), (x 8, .inl (E.2.1 4, 6, .inr (.inr (.inr (.inr (fun j => some (x (14 + j)))))))), (x 14, .inr (7, [])), (x 15, .inr (0, [])), (x 16, .inr (3, [])), (x 17, .inr (1, [])), (x 18, .inr (9, [])), (x 19, .inr (2, []))] (some (.int (bI (tk 4 far be no (evn da))))) [(x 7, .inr (6, oG x)), (x 8, .inl (E.2.1 4, 6, .inr (.inr (.inr (.inr (fun j => some (x (14 + j)))))))), (x 14, .inr (7, [])), (x 15, .inr (0, [])), (x 16, .inr (3, [])), (x 17, .inr (1, [])), (x 18, .inr (9, [])), (x 19, .inr (2, []))] := by
  refine fn_Z (by decide) (Nat.le_of_ble_eq_true rfl) rfl (nar_bI _) ?_
  intro K hC hR
  show G K E 6 [(x 7, .inr (6, oG x)), (x 8, .inl (E.2.1 4, 6, .inr (.inr (.inr (.inr (fun j => some (x (14 + j)))))))), (x 14, .inr (7, [])), (x 15, .inr (0, [])), (x 16, .inr (3, [])), (x 17, .inr (1, [])), (x 18, .inr (9, [])), (x 19, .inr (2, []))] [(0, .ref (x 7)), (1, .int (nI 4)), (2, .int (nI far)), (3, .int (bI be)), (4, .int (bI no)), (5, .int da)] 0 []
  refine g_iload_n hC dX6_turnsAs_0 rfl 1 rfl ?_
  refine g_aload_n hC dX6_turnsAs_1 rfl 0 rfl ?_
  refine g_get hC 0 6 0 inX6 m1_186 dX6_turnsAs_2 rfl rfl (by decide) rfl ?_
  refine g_alen hC 1 4 dX6_turnsAs_5 rfl rfl ?_
  refine g_callSN hC (f_X11_within (kl K) E (nI 4) 6 (by omega)) wX11_within (List.mem_of_getElem? (i := 17) rfl) dX6_turnsAs_6 [] [(x 7, .inr (6, oG x)), (x 8, .inl (E.2.1 4, 6, .inr (.inr (.inr (.inr (fun j => some (x (14 + j)))))))), (x 14, .inr (7, [])), (x 15, .inr (0, [])), (x 16, .inr (3, [])), (x 17, .inr (1, [])), (x 18, .inr (9, [])), (x 19, .inr (2, []))] (by decide) rfl (Nat.le_of_ble_eq_true rfl) rfl rfl rfl rfl rfl ?_
  refine g_if_eqB (tgt := 34) hC dX6_turnsAs_9 (by decide) (fun h_9 => ?_) (fun h_9 => ?_)
  · exact Bool.noConfusion ((inB_ok (by omega) (by omega)).symm.trans h_9)
  · refine g_aload_n hC dX6_turnsAs_12 rfl 0 rfl ?_
    refine g_get hC 0 6 0 inX6 m1_186 dX6_turnsAs_13 rfl rfl (by decide) rfl ?_
    refine g_iload_n hC dX6_turnsAs_16 rfl 1 rfl ?_
    refine g_aald hC 1 4 dX6_turnsAs_17 rfl rfl (by decide) (by omega) (rfl) ?_
    refine g_iload_n hC dX6_turnsAs_18 rfl 2 rfl ?_
    refine g_iload_n hC dX6_turnsAs_19 rfl 3 rfl ?_
    refine g_iload hC dX6_turnsAs_20 4 rfl ?_
    refine g_iload hC dX6_turnsAs_22 5 rfl ?_
    refine g_callU (n := 4) hC (f_X9_turns (kl K) E (x 18) (nI far) be no da) m2_176 m2_179 m2_177 m2_196 m2_197 m1_10 m2_198 m2_200 (by decide) (by decide +kernel) dX6_turnsAs_24 [6] [(x 7, .inr (6, oG x)), (x 8, .inl (E.2.1 4, 6, .inr (.inr (.inr (.inr (fun j => some (x (14 + j)))))))), (x 14, .inr (7, [])), (x 15, .inr (0, [])), (x 16, .inr (3, [])), (x 17, .inr (1, [])), (x 18, .inr (9, [])), (x 19, .inr (2, []))] 6 9 rfl rfl (by decide) rfl (Nat.le_of_ble_eq_true rfl) rfl rfl rfl rfl rfl ?_
    refine g_if_eqB (tgt := 34) hC dX6_turnsAs_27 (by decide) (fun h_27 => ?_) (fun h_27 => ?_)
    · refine g_iconst (v := (nI 0)) hC dX6_turnsAs_34 (by decide) ?_
      exact g_val (bI_0e (by rw [← h_27]; exact tk_4 hf)) (g_ws (rfl) (hR _ _ dX6_turnsAs_35))
    · refine g_iconst (v := (nI 1)) hC dX6_turnsAs_30 (by decide) ?_
      refine g_goto (tgt := 35) hC dX6_turnsAs_31 (by decide) ?_
      exact g_val (bI_1e (by rw [← h_27]; exact tk_4 hf)) (g_ws (rfl) (hR _ _ dX6_turnsAs_35))
set_option maxHeartbeats 4000000 in
set_option maxRecDepth 100000 in
theorem f_X6_turnsAs5 (l : Launch) (E : Ew) (x : Nat → Nat) (far : Nat) (be : Bool) (no : Bool) (da : Int32) (hf : far < 1000) : Fn l E 3 yX6_turnsAs cX6_turnsAs 6 (some .boolean) [.ref (x 7), .int (nI 5), .int (nI far), .int (bI be), .int (bI no), .int da] [(x 7, .inr (6, oG x)), (x 8, .inl (E.2.1 4, 6, .inr (.inr (.inr (.inr (fun j => some (x (14 + j)))))))), (x 14, .inr (7, [])), (x 15, .inr (0, [])), (x 16, .inr (3, [])), (x 17, .inr (1, [])), (x 18, .inr (9, [])), (x 19, .inr (2, []))] (some (.int (bI (tk 5 far be no (evn da))))) [(x 7, .inr (6, oG x)), (x 8, .inl (E.2.1 4, 6, .inr (.inr (.inr (.inr (fun j => some (x (14 + j)))))))), (x 14, .inr (7, [])), (x 15, .inr (0, [])), (x 16, .inr (3, [])), (x 17, .inr (1, [])), (x 18, .inr (9, [])), (x 19, .inr (2, []))] := by
  refine fn_Z (by decide) (Nat.le_of_ble_eq_true rfl) rfl (nar_bI _) ?_
  intro K hC hR
  show G K E 6 [(x 7, .inr (6, oG x)), (x 8, .inl (E.2.1 4, 6, .inr (.inr (.inr (.inr (fun j => some (x (14 + j)))))))), (x 14, .inr (7, [])), (x 15, .inr (0, [])), (x 16, .inr (3, [])), (x 17, .inr (1, [])), (x 18, .inr (9, [])), (x 19, .inr (2, []))] [(0, .ref (x 7)), (1, .int (nI 5)), (2, .int (nI far)), (3, .int (bI be)), (4, .int (bI no)), (5, .int da)] 0 []
  refine g_iload_n hC dX6_turnsAs_0 rfl 1 rfl ?_
  refine g_aload_n hC dX6_turnsAs_1 rfl 0 rfl ?_
  refine g_get hC 0 6 0 inX6 m1_186 dX6_turnsAs_2 rfl rfl (by decide) rfl ?_
  refine g_alen hC 1 4 dX6_turnsAs_5 rfl rfl ?_
  refine g_callSN hC (f_X11_within (kl K) E (nI 5) 6 (by omega)) wX11_within (List.mem_of_getElem? (i := 17) rfl) dX6_turnsAs_6 [] [(x 7, .inr (6, oG x)), (x 8, .inl (E.2.1 4, 6, .inr (.inr (.inr (.inr (fun j => some (x (14 + j)))))))), (x 14, .inr (7, [])), (x 15, .inr (0, [])), (x 16, .inr (3, [])), (x 17, .inr (1, [])), (x 18, .inr (9, [])), (x 19, .inr (2, []))] (by decide) rfl (Nat.le_of_ble_eq_true rfl) rfl rfl rfl rfl rfl ?_
  refine g_if_eqB (tgt := 34) hC dX6_turnsAs_9 (by decide) (fun h_9 => ?_) (fun h_9 => ?_)
  · exact Bool.noConfusion ((inB_ok (by omega) (by omega)).symm.trans h_9)
  · refine g_aload_n hC dX6_turnsAs_12 rfl 0 rfl ?_
    refine g_get hC 0 6 0 inX6 m1_186 dX6_turnsAs_13 rfl rfl (by decide) rfl ?_
    refine g_iload_n hC dX6_turnsAs_16 rfl 1 rfl ?_
    refine g_aald hC 1 4 dX6_turnsAs_17 rfl rfl (by decide) (by omega) (rfl) ?_
    refine g_iload_n hC dX6_turnsAs_18 rfl 2 rfl ?_
    refine g_iload_n hC dX6_turnsAs_19 rfl 3 rfl ?_
    refine g_iload hC dX6_turnsAs_20 4 rfl ?_
    refine g_iload hC dX6_turnsAs_22 5 rfl ?_
    refine g_callU (n := 4) hC (f_X2_turns (kl K) E (x 19) (nI far) be no da) m2_176 m2_179 m2_177 m2_188 m2_189 m1_11 m2_190 m2_200 (by decide) (by decide +kernel) dX6_turnsAs_24 [7] [(x 7, .inr (6, oG x)), (x 8, .inl (E.2.1 4, 6, .inr (.inr (.inr (.inr (fun j => some (x (14 + j)))))))), (x 14, .inr (7, [])), (x 15, .inr (0, [])), (x 16, .inr (3, [])), (x 17, .inr (1, [])), (x 18, .inr (9, [])), (x 19, .inr (2, []))] 7 2 rfl rfl (by decide) rfl (Nat.le_of_ble_eq_true rfl) rfl rfl rfl rfl rfl ?_
    refine g_if_eqB (tgt := 34) hC dX6_turnsAs_27 (by decide) (fun h_27 => ?_) (fun h_27 => ?_)
    · refine g_iconst (v := (nI 0)) hC dX6_turnsAs_34 (by decide) ?_
      exact g_val (bI_0e (by rw [← h_27]; exact tk_5 hf)) (g_ws (rfl) (hR _ _ dX6_turnsAs_35))
    · refine g_iconst (v := (nI 1)) hC dX6_turnsAs_30 (by decide) ?_
      refine g_goto (tgt := 35) hC dX6_turnsAs_31 (by decide) ?_
      exact g_val (bI_1e (by rw [← h_27]; exact tk_5 hf)) (g_ws (rfl) (hR _ _ dX6_turnsAs_35))
set_option maxRecDepth 100000 in
theorem f_X6_turnsAs (l : Launch) (E : Ew) (x : Nat → Nat) (kd far : Nat) (be no : Bool) (da : Int32) (hkd : kd < 6) (hf : far < 1000) : Fn l E 3 yX6_turnsAs cX6_turnsAs 6 (some .boolean) [.ref (x 7), .int (nI kd), .int (nI far), .int (bI be), .int (bI no), .int da] [(x 7, .inr (6, oG x)), (x 8, .inl (E.2.1 4, 6, .inr (.inr (.inr (.inr (fun j => some (x (14 + j)))))))), (x 14, .inr (7, [])), (x 15, .inr (0, [])), (x 16, .inr (3, [])), (x 17, .inr (1, [])), (x 18, .inr (9, [])), (x 19, .inr (2, []))] (some (.int (bI (tk kd far be no (evn da))))) [(x 7, .inr (6, oG x)), (x 8, .inl (E.2.1 4, 6, .inr (.inr (.inr (.inr (fun j => some (x (14 + j)))))))), (x 14, .inr (7, [])), (x 15, .inr (0, [])), (x 16, .inr (3, [])), (x 17, .inr (1, [])), (x 18, .inr (9, [])), (x 19, .inr (2, []))] := by
  match kd, hkd with
  | 0, _ => exact f_X6_turnsAs0 l E x far be no da hf
  | 1, _ => exact f_X6_turnsAs1 l E x far be no da hf
  | 2, _ => exact f_X6_turnsAs2 l E x far be no da hf
  | 3, _ => exact f_X6_turnsAs3 l E x far be no da hf
  | 4, _ => exact f_X6_turnsAs4 l E x far be no da hf
  | 5, _ => exact f_X6_turnsAs5 l E x far be no da hf
  | k + 6, h => exact absurd h (by omega)
