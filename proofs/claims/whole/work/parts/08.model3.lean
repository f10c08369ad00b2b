set_option maxHeartbeats 4000000 in
set_option maxRecDepth 100000 in
theorem f_X12_begin (l : Launch) (E : Ew) (b : Nat) (a : Nat → Int32) (dy : Int32)  : Fn l E 0 yX12_begin cX12_begin 3 none [.ref b, .int dy] [(b, .inl (E.2.1 0, 188, .inl a))] none [(b, .inl (E.2.1 0, 188, .inl (beg a dy)))] := by
  refine fn_V (by decide) (Nat.le_of_ble_eq_true rfl) rfl ?_
  intro K hC hR
  show G K E 3 [(b, .inl (E.2.1 0, 188, .inl a))] [(0, .ref b), (1, .int dy)] 0 []
  refine g_iconst (v := (nI 0)) hC dX12_begin_0 (by decide) ?_
  refine g_istore_n hC [(2, .int (nI 0)), (0, .ref b), (1, .int dy)] dX12_begin_1 rfl (by decide) rfl ?_
  have L_2 : ∀ (fu : Nat) (k : Nat) (hk : k ≤ 68), 68 - k < fu → G K E 3 [(b, .inl (E.2.1 0, 188, .inl (zr a k)))] [(2, .int (nI k)), (0, .ref b), (1, .int dy)] 2 [] := by
    intro fu
    induction fu with
    | zero => intro k hk hm_2; exact absurd hm_2 (Nat.not_lt_zero _)
    | succ fu ih_2 =>
      intro k hk hm_2
      refine g_iload_n hC dX12_begin_2 rfl 0 rfl ?_
      refine g_bipush (v := (nI 68)) hC dX12_begin_3 (by decide) ?_
      refine g_icmp_geN (tgt := 18) hC dX12_begin_5 (by decide) (by omega) (by omega) (fun h_5 => ?_) (fun h_5 => ?_)
      · refine g_aload_n hC dX12_begin_18 rfl 1 rfl ?_
        refine g_iconst (v := (nI 1)) hC dX12_begin_19 (by decide) ?_
        refine g_iload_n hC dX12_begin_20 rfl 2 rfl ?_
        refine g_iastN hC 0 [(b, .inl (E.2.1 0, 188, .inl (upd (zr a k) 1 dy)))] dX12_begin_21 rfl (by decide) (by omega) rfl ?_
        exact g_ws (by rw [show k = 68 by omega]; rfl) (hR _ _ dX12_begin_22)
      · refine g_aload_n hC dX12_begin_8 rfl 1 rfl ?_
        refine g_iload_n hC dX12_begin_9 rfl 0 rfl ?_
        refine g_iconst (v := (nI 0)) hC dX12_begin_10 (by decide) ?_
        refine g_iastN hC 0 [(b, .inl (E.2.1 0, 188, .inl (upd (zr a k) k (nI 0))))] dX12_begin_11 rfl (by decide) (by omega) rfl ?_
        refine g_iincN hC (q := 0) 1 [(2, .int (nI (k + 1))), (0, .ref b), (1, .int dy)] dX12_begin_12 rfl rfl (by decide) rfl ?_
        refine g_goto (tgt := 2) hC dX12_begin_15 (by decide) ?_
        refine g_lv (lv' := [(2, .int (nI (k + 1))), (0, .ref b), (1, .int dy)]) [0, 1, 2] rfl ?_
        refine g_ws (ws' := [(b, .inl (E.2.1 0, 188, .inl (zr a (k + 1))))]) (by rw [zr_s]) ?_
        exact ih_2 (k + 1) (by omega) (by omega)
  refine g_lv (lv' := [(2, .int (nI 0)), (0, .ref b), (1, .int dy)]) [0, 1, 2] rfl ?_
  refine g_ws (ws' := [(b, .inl (E.2.1 0, 188, .inl (zr a 0)))]) (by rw [zr_0]) ?_
  exact L_2 ((68 - 0) + 1) 0 (by omega) (Nat.lt_succ_self _)
set_option maxHeartbeats 4000000 in
set_option maxRecDepth 100000 in
theorem f_X12_layOne (l : Launch) (E : Ew) (b : Nat) (a : Nat → Int32) (kd : Nat) (pl : Nat) (n : Nat) (hn : a 0 = nI n) (hn7 : n < 7) : Fn l E 0 yX12_layOne cX12_layOne 4 none [.ref b, .int (nI kd), .int (nI pl)] [(b, .inl (E.2.1 0, 188, .inl a))] none [(b, .inl (E.2.1 0, 188, .inl (layF a kd pl n)))] := by
  refine fn_V (by decide) (Nat.le_of_ble_eq_true rfl) rfl ?_
  intro K hC hR
  show G K E 4 [(b, .inl (E.2.1 0, 188, .inl a))] [(0, .ref b), (1, .int (nI kd)), (2, .int (nI pl))] 0 []
  refine g_aload_n hC dX12_layOne_0 rfl 0 rfl ?_
  refine g_iconst (v := (nI 0)) hC dX12_layOne_1 (by decide) ?_
  refine g_ialdN hC 0 dX12_layOne_2 rfl (by decide) (by omega) ?_
  refine g_val (v' := .int (nI n)) (by rw [hn]) ?_
  refine g_istore_n hC [(3, .int (nI n)), (0, .ref b), (1, .int (nI kd)), (2, .int (nI pl))] dX12_layOne_3 rfl (by decide) rfl ?_
  refine g_aload_n hC dX12_layOne_4 rfl 1 rfl ?_
  refine g_iconst (v := (nI 5)) hC dX12_layOne_5 (by decide) ?_
  refine g_iload_n hC dX12_layOne_6 rfl 0 rfl ?_
  refine g_iaddN hC dX12_layOne_7 ?_
  refine g_iload_n hC dX12_layOne_8 rfl 0 rfl ?_
  refine g_iastN hC 0 [(b, .inl (E.2.1 0, 188, .inl (upd a (5 + n) (nI n))))] dX12_layOne_9 rfl (by decide) (by omega) rfl ?_
  refine g_aload_n hC dX12_layOne_10 rfl 1 rfl ?_
  refine g_bipush (v := (nI 12)) hC dX12_layOne_11 (by decide) ?_
  refine g_iload_n hC dX12_layOne_13 rfl 0 rfl ?_
  refine g_iaddN hC dX12_layOne_14 ?_
  refine g_iload_n hC dX12_layOne_15 rfl 3 rfl ?_
  refine g_iastN hC 0 [(b, .inl (E.2.1 0, 188, .inl (upd (upd a (5 + n) (nI n)) (12 + n) (nI pl))))] dX12_layOne_16 rfl (by decide) (by omega) rfl ?_
  refine g_aload_n hC dX12_layOne_17 rfl 1 rfl ?_
  refine g_bipush (v := (nI 19)) hC dX12_layOne_18 (by decide) ?_
  refine g_iload_n hC dX12_layOne_20 rfl 0 rfl ?_
  refine g_iaddN hC dX12_layOne_21 ?_
  refine g_iload_n hC dX12_layOne_22 rfl 2 rfl ?_
  refine g_iastN hC 0 [(b, .inl (E.2.1 0, 188, .inl (upd (upd (upd a (5 + n) (nI n)) (12 + n) (nI pl)) (19 + n) (nI kd))))] dX12_layOne_23 rfl (by decide) (by omega) rfl ?_
  refine g_aload_n hC dX12_layOne_24 rfl 1 rfl ?_
  refine g_iconst (v := (nI 0)) hC dX12_layOne_25 (by decide) ?_
  refine g_dup2 hC dX12_layOne_26 rfl rfl ?_
  refine g_ialdN hC 0 dX12_layOne_27 rfl (by decide) (by omega) ?_
  refine g_val (v' := .int (nI n)) (by rw [upd_n (by omega), upd_n (by omega), upd_n (by omega), hn]) ?_
  refine g_iconst (v := (nI 1)) hC dX12_layOne_28 (by decide) ?_
  refine g_iaddN hC dX12_layOne_29 ?_
  refine g_iastN hC 0 [(b, .inl (E.2.1 0, 188, .inl (upd (upd (upd (upd a (5 + n) (nI n)) (12 + n) (nI pl)) (19 + n) (nI kd)) 0 (nI (n + 1)))))] dX12_layOne_30 rfl (by decide) (by omega) rfl ?_
  exact g_ws (rfl) (hR _ _ dX12_layOne_31)
set_option maxHeartbeats 4000000 in
set_option maxRecDepth 100000 in
theorem f_X12_begin68 (l : Launch) (E : Ew) (b : Nat) (a : Nat → Int32) (dy : Int32)  : Fn l E 0 yX12_begin cX12_begin 3 none [.ref b, .int dy] [(b, .inl (E.2.1 0, 68, .inl a))] none [(b, .inl (E.2.1 0, 68, .inl (beg a dy)))] := by
  refine fn_V (by decide) (Nat.le_of_ble_eq_true rfl) rfl ?_
  intro K hC hR
  show G K E 3 [(b, .inl (E.2.1 0, 68, .inl a))] [(0, .ref b), (1, .int dy)] 0 []
  refine g_iconst (v := (nI 0)) hC dX12_begin_0 (by decide) ?_
  refine g_istore_n hC [(2, .int (nI 0)), (0, .ref b), (1, .int dy)] dX12_begin_1 rfl (by decide) rfl ?_
  have L_2 : ∀ (fu : Nat) (k : Nat) (hk : k ≤ 68), 68 - k < fu → G K E 3 [(b, .inl (E.2.1 0, 68, .inl (zr a k)))] [(2, .int (nI k)), (0, .ref b), (1, .int dy)] 2 [] := by
    intro fu
    induction fu with
    | zero => intro k hk hm_2; exact absurd hm_2 (Nat.not_lt_zero _)
    | succ fu ih_2 =>
      intro k hk hm_2
      refine g_iload_n hC dX12_begin_2 rfl 0 rfl ?_
      refine g_bipush (v := (nI 68)) hC dX12_begin_3 (by decide) ?_
      refine g_icmp_geN (tgt := 18) hC dX12_begin_5 (by decide) (by omega) (by omega) (fun h_5 => ?_) (fun h_5 => ?_)
      · refine g_aload_n hC dX12_begin_18 rfl 1 rfl ?_
        refine g_iconst (v := (nI 1)) hC dX12_begin_19 (by decide) ?_
        refine g_iload_n hC dX12_begin_20 rfl 2 rfl ?_
        refine g_iastN hC 0 [(b, .inl (E.2.1 0, 68, .inl (upd (zr a k) 1 dy)))] dX12_begin_21 rfl (by decide) (by omega) rfl ?_
        exact g_ws (by rw [show k = 68 by omega]; rfl) (hR _ _ dX12_begin_22)
      · refine g_aload_n hC dX12_begin_8 rfl 1 rfl ?_
        refine g_iload_n hC dX12_begin_9 rfl 0 rfl ?_
        refine g_iconst (v := (nI 0)) hC dX12_begin_10 (by decide) ?_
        refine g_iastN hC 0 [(b, .inl (E.2.1 0, 68, .inl (upd (zr a k) k (nI 0))))] dX12_begin_11 rfl (by decide) (by omega) rfl ?_
        refine g_iincN hC (q := 0) 1 [(2, .int (nI (k + 1))), (0, .ref b), (1, .int dy)] dX12_begin_12 rfl rfl (by decide) rfl ?_
        refine g_goto (tgt := 2) hC dX12_begin_15 (by decide) ?_
        refine g_lv (lv' := [(2, .int (nI (k + 1))), (0, .ref b), (1, .int dy)]) [0, 1, 2] rfl ?_
        refine g_ws (ws' := [(b, .inl (E.2.1 0, 68, .inl (zr a (k + 1))))]) (by rw [zr_s]) ?_
        exact ih_2 (k + 1) (by omega) (by omega)
  refine g_lv (lv' := [(2, .int (nI 0)), (0, .ref b), (1, .int dy)]) [0, 1, 2] rfl ?_
  refine g_ws (ws' := [(b, .inl (E.2.1 0, 68, .inl (zr a 0)))]) (by rw [zr_0]) ?_
  exact L_2 ((68 - 0) + 1) 0 (by omega) (Nat.lt_succ_self _)
set_option maxHeartbeats 4000000 in
set_option maxRecDepth 100000 in
theorem f_X12_layOne68 (l : Launch) (E : Ew) (b : Nat) (a : Nat → Int32) (kd : Nat) (pl : Nat) (n : Nat) (hn : a 0 = nI n) (hn7 : n < 7) : Fn l E 0 yX12_layOne cX12_layOne 4 none [.ref b, .int (nI kd), .int (nI pl)] [(b, .inl (E.2.1 0, 68, .inl a))] none [(b, .inl (E.2.1 0, 68, .inl (layF a kd pl n)))] := by
  refine fn_V (by decide) (Nat.le_of_ble_eq_true rfl) rfl ?_
  intro K hC hR
  show G K E 4 [(b, .inl (E.2.1 0, 68, .inl a))] [(0, .ref b), (1, .int (nI kd)), (2, .int (nI pl))] 0 []
  refine g_aload_n hC dX12_layOne_0 rfl 0 rfl ?_
  refine g_iconst (v := (nI 0)) hC dX12_layOne_1 (by decide) ?_
  refine g_ialdN hC 0 dX12_layOne_2 rfl (by decide) (by omega) ?_
  refine g_val (v' := .int (nI n)) (by rw [hn]) ?_
  refine g_istore_n hC [(3, .int (nI n)), (0, .ref b), (1, .int (nI kd)), (2, .int (nI pl))] dX12_layOne_3 rfl (by decide) rfl ?_
  refine g_aload_n hC dX12_layOne_4 rfl 1 rfl ?_
  refine g_iconst (v := (nI 5)) hC dX12_layOne_5 (by decide) ?_
  refine g_iload_n hC dX12_layOne_6 rfl 0 rfl ?_
  refine g_iaddN hC dX12_layOne_7 ?_
  refine g_iload_n hC dX12_layOne_8 rfl 0 rfl ?_
  refine g_iastN hC 0 [(b, .inl (E.2.1 0, 68, .inl (upd a (5 + n) (nI n))))] dX12_layOne_9 rfl (by decide) (by omega) rfl ?_
  refine g_aload_n hC dX12_layOne_10 rfl 1 rfl ?_
  refine g_bipush (v := (nI 12)) hC dX12_layOne_11 (by decide) ?_
  refine g_iload_n hC dX12_layOne_13 rfl 0 rfl ?_
  refine g_iaddN hC dX12_layOne_14 ?_
  refine g_iload_n hC dX12_layOne_15 rfl 3 rfl ?_
  refine g_iastN hC 0 [(b, .inl (E.2.1 0, 68, .inl (upd (upd a (5 + n) (nI n)) (12 + n) (nI pl))))] dX12_layOne_16 rfl (by decide) (by omega) rfl ?_
  refine g_aload_n hC dX12_layOne_17 rfl 1 rfl ?_
  refine g_bipush (v := (nI 19)) hC dX12_layOne_18 (by decide) ?_
  refine g_iload_n hC dX12_layOne_20 rfl 0 rfl ?_
  refine g_iaddN hC dX12_layOne_21 ?_
  refine g_iload_n hC dX12_layOne_22 rfl 2 rfl ?_
  refine g_iastN hC 0 [(b, .inl (E.2.1 0, 68, .inl (upd (upd (upd a (5 + n) (nI n)) (12 + n) (nI pl)) (19 + n) (nI kd))))] dX12_layOne_23 rfl (by decide) (by omega) rfl ?_
  refine g_aload_n hC dX12_layOne_24 rfl 1 rfl ?_
  refine g_iconst (v := (nI 0)) hC dX12_layOne_25 (by decide) ?_
  refine g_dup2 hC dX12_layOne_26 rfl rfl ?_
  refine g_ialdN hC 0 dX12_layOne_27 rfl (by decide) (by omega) ?_
  refine g_val (v' := .int (nI n)) (by rw [upd_n (by omega), upd_n (by omega), upd_n (by omega), hn]) ?_
  refine g_iconst (v := (nI 1)) hC dX12_layOne_28 (by decide) ?_
  refine g_iaddN hC dX12_layOne_29 ?_
  refine g_iastN hC 0 [(b, .inl (E.2.1 0, 68, .inl (upd (upd (upd (upd a (5 + n) (nI n)) (12 + n) (nI pl)) (19 + n) (nI kd)) 0 (nI (n + 1)))))] dX12_layOne_30 rfl (by decide) (by omega) rfl ?_
  exact g_ws (rfl) (hR _ _ dX12_layOne_31)
set_option maxHeartbeats 4000000 in
set_option maxRecDepth 100000 in
theorem f_X12_keep (l : Launch) (E : Ew) (q : Nat → Nat) (ab : Int64) (be : Int64) (fe : Int32) (fc : Int32) (mo : Int32) (bl : Int32) (ta : Int32) (tl : Int32) (tkn : Int32) (va : Int32) (a : Nat → Int32) (hu : isN (a 4) 9) : Fn l E 0 yX12_keep cX12_keep 3 none [.ref (q 0)] [(q 0, .inr (12, oM q ab be fe fc mo bl ta tl tkn va)), (q 1, .inl (E.2.1 0, 188, .inl a))] none [(q 0, .inr (12, oM q ab be fe fc mo bl ta tl tkn va)), (q 1, .inl (E.2.1 0, 188, .inl (kpF a)))] := by
  refine fn_V (by decide) (Nat.le_of_ble_eq_true rfl) rfl ?_
  intro K hC hR
  show G K E 3 [(q 0, .inr (12, oM q ab be fe fc mo bl ta tl tkn va)), (q 1, .inl (E.2.1 0, 188, .inl a))] [(0, .ref (q 0))] 0 []
  have hu9 := hu.2
  have J_51 : ∀ (b : Nat → Int32) (u : Nat) (hb4 : b 4 = nI u) (hu7 : u ≤ 7) (hkp : kpF a = kpG b u), G K E 3 [(q 0, .inr (12, oM q ab be fe fc mo bl ta tl tkn va)), (q 1, .inl (E.2.1 0, 188, .inl b))] [(0, .ref (q 0))] 51 [] := by
    intro b u hb4 hu7 hkp
    refine g_bipush (v := (nI 68)) hC dX12_keep_51 (by decide) ?_
    refine g_bipush (v := (nI 15)) hC dX12_keep_53 (by decide) ?_
    refine g_aload_n hC dX12_keep_55 rfl 0 rfl ?_
    refine g_get hC 0 12 0 inX12 m3_208 dX12_keep_56 rfl rfl (by decide) rfl ?_
    refine g_iconst (v := (nI 4)) hC dX12_keep_59 (by decide) ?_
    refine g_ialdN hC 1 dX12_keep_60 rfl (by decide) (by omega) ?_
    refine g_val (v' := .int (nI u)) (by rw [hb4]) ?_
    refine g_imulN hC dX12_keep_61 ?_
    refine g_iaddN hC dX12_keep_62 ?_
    refine g_istore_n hC [(1, .int (nI (68 + (15 * u)))), (0, .ref (q 0))] dX12_keep_63 rfl (by decide) rfl ?_
    refine g_iconst (v := (nI 0)) hC dX12_keep_64 (by decide) ?_
    refine g_istore_n hC [(2, .int (nI 0)), (1, .int (nI (68 + (15 * u)))), (0, .ref (q 0))] dX12_keep_65 rfl (by decide) rfl ?_
    have L_66 : ∀ (fu : Nat) (k : Nat) (hk : k ≤ 14), 14 - k < fu → G K E 3 [(q 0, .inr (12, oM q ab be fe fc mo bl ta tl tkn va)), (q 1, .inl (E.2.1 0, 188, .inl (cpy b 5 (68 + 15 * u) k)))] [(2, .int (nI k)), (1, .int (nI (68 + (15 * u)))), (0, .ref (q 0))] 66 [] := by
      intro fu
      induction fu with
      | zero => intro k hk hm_66; exact absurd hm_66 (Nat.not_lt_zero _)
      | succ fu ih_66 =>
        intro k hk hm_66
        refine g_iload_n hC dX12_keep_66 rfl 0 rfl ?_
        refine g_bipush (v := (nI 14)) hC dX12_keep_67 (by decide) ?_
        refine g_icmp_geN (tgt := 94) hC dX12_keep_69 (by decide) (by omega) (by omega) (fun h_69 => ?_) (fun h_69 => ?_)
        · refine g_aload_n hC dX12_keep_94 rfl 2 rfl ?_
          refine g_get hC 0 12 0 inX12 m3_208 dX12_keep_95 rfl rfl (by decide) rfl ?_
          refine g_iload_n hC dX12_keep_98 rfl 1 rfl ?_
          refine g_bipush (v := (nI 14)) hC dX12_keep_99 (by decide) ?_
          refine g_iaddN hC dX12_keep_101 ?_
          refine g_aload_n hC dX12_keep_102 rfl 2 rfl ?_
          refine g_get hC 0 12 0 inX12 m3_208 dX12_keep_103 rfl rfl (by decide) rfl ?_
          refine g_iconst (v := (nI 1)) hC dX12_keep_106 (by decide) ?_
          refine g_ialdN hC 1 dX12_keep_107 rfl (by decide) (by omega) ?_
          refine g_val (v' := .int (b 1)) (by rw [cpy_out (by omega)]) ?_
          refine g_iastN hC 1 [(q 0, .inr (12, oM q ab be fe fc mo bl ta tl tkn va)), (q 1, .inl (E.2.1 0, 188, .inl (upd (cpy b 5 (68 + 15 * u) k) ((68 + (15 * u)) + 14) (b 1))))] dX12_keep_108 rfl (by decide) (by omega) rfl ?_
          refine g_aload_n hC dX12_keep_109 rfl 2 rfl ?_
          refine g_get hC 0 12 0 inX12 m3_208 dX12_keep_110 rfl rfl (by decide) rfl ?_
          refine g_iconst (v := (nI 4)) hC dX12_keep_113 (by decide) ?_
          refine g_dup2 hC dX12_keep_114 rfl rfl ?_
          refine g_ialdN hC 1 dX12_keep_115 rfl (by decide) (by omega) ?_
          refine g_val (v' := .int (nI u)) (by rw [upd_n (by omega), cpy_out (by omega), hb4]) ?_
          refine g_iconst (v := (nI 1)) hC dX12_keep_116 (by decide) ?_
          refine g_iaddN hC dX12_keep_117 ?_
          refine g_iastN hC 1 [(q 0, .inr (12, oM q ab be fe fc mo bl ta tl tkn va)), (q 1, .inl (E.2.1 0, 188, .inl (upd (upd (cpy b 5 (68 + 15 * u) k) ((68 + (15 * u)) + 14) (b 1)) 4 (nI (u + 1)))))] dX12_keep_118 rfl (by decide) (by omega) rfl ?_
          exact g_ws (by rw [hkp, show k = 14 by omega]; rfl) (hR _ _ dX12_keep_119)
        · refine g_aload_n hC dX12_keep_72 rfl 2 rfl ?_
          refine g_get hC 0 12 0 inX12 m3_208 dX12_keep_73 rfl rfl (by decide) rfl ?_
          refine g_iload_n hC dX12_keep_76 rfl 1 rfl ?_
          refine g_iload_n hC dX12_keep_77 rfl 0 rfl ?_
          refine g_iaddN hC dX12_keep_78 ?_
          refine g_aload_n hC dX12_keep_79 rfl 2 rfl ?_
          refine g_get hC 0 12 0 inX12 m3_208 dX12_keep_80 rfl rfl (by decide) rfl ?_
          refine g_iconst (v := (nI 5)) hC dX12_keep_83 (by decide) ?_
          refine g_iload_n hC dX12_keep_84 rfl 0 rfl ?_
          refine g_iaddN hC dX12_keep_85 ?_
          refine g_ialdN hC 1 dX12_keep_86 rfl (by decide) (by omega) ?_
          refine g_val (v' := .int (b (5 + k))) (by rw [cpy_out (by omega)]) ?_
          refine g_iastN hC 1 [(q 0, .inr (12, oM q ab be fe fc mo bl ta tl tkn va)), (q 1, .inl (E.2.1 0, 188, .inl (upd (cpy b 5 (68 + 15 * u) k) ((68 + (15 * u)) + k) (b (5 + k)))))] dX12_keep_87 rfl (by decide) (by omega) rfl ?_
          refine g_iincN hC (q := 0) 1 [(2, .int (nI (k + 1))), (1, .int (nI (68 + (15 * u)))), (0, .ref (q 0))] dX12_keep_88 rfl rfl (by decide) rfl ?_
          refine g_goto (tgt := 66) hC dX12_keep_91 (by decide) ?_
          refine g_lv (lv' := [(2, .int (nI (k + 1))), (1, .int (nI (68 + (15 * u)))), (0, .ref (q 0))]) [0, 1, 2] rfl ?_
          refine g_ws (ws' := [(q 0, .inr (12, oM q ab be fe fc mo bl ta tl tkn va)), (q 1, .inl (E.2.1 0, 188, .inl (cpy b 5 (68 + 15 * u) (k + 1))))]) (by rw [cpy_s]) ?_
          exact ih_66 (k + 1) (by omega) (by omega)
    refine g_lv (lv' := [(2, .int (nI 0)), (1, .int (nI (68 + (15 * u)))), (0, .ref (q 0))]) [0, 1, 2] rfl ?_
    refine g_ws (ws' := [(q 0, .inr (12, oM q ab be fe fc mo bl ta tl tkn va)), (q 1, .inl (E.2.1 0, 188, .inl (cpy b 5 (68 + 15 * u) 0)))]) (by rw [cpy_0]) ?_
    exact L_66 ((14 - 0) + 1) 0 (by omega) (Nat.lt_succ_self _)
  refine g_aload_n hC dX12_keep_0 rfl 0 rfl ?_
  refine g_get hC 0 12 0 inX12 m3_208 dX12_keep_1 rfl rfl (by decide) rfl ?_
  refine g_iconst (v := (nI 4)) hC dX12_keep_4 (by decide) ?_
  refine g_ialdN hC 1 dX12_keep_5 rfl (by decide) (by omega) ?_
  refine g_val (v' := .int (nI (tn (a 4)))) (by rw [← hu.1]) ?_
  refine g_bipush (v := (nI 8)) hC dX12_keep_6 (by decide) ?_
  refine g_icmp_neN (tgt := 51) hC dX12_keep_8 (by decide) (by omega) (by omega) (fun h_8 => ?_) (fun h_8 => ?_)
  · refine g_lv (lv' := [(0, .ref (q 0))]) [0] rfl ?_
    exact J_51 a (tn (a 4)) (by first | exact hu.1 | exact upd_s _ _ _) (by omega) (by unfold kpF; rw [if_neg (by omega)])
  · refine g_iconst (v := (nI 0)) hC dX12_keep_11 (by decide) ?_
    refine g_istore_n hC [(1, .int (nI 0)), (0, .ref (q 0))] dX12_keep_12 rfl (by decide) rfl ?_
    have L_13 : ∀ (fu : Nat) (k : Nat) (hk : k ≤ 105), 105 - k < fu → G K E 3 [(q 0, .inr (12, oM q ab be fe fc mo bl ta tl tkn va)), (q 1, .inl (E.2.1 0, 188, .inl (cpy a 83 68 k)))] [(1, .int (nI k)), (0, .ref (q 0))] 13 [] := by
      intro fu
      induction fu with
      | zero => intro k hk hm_13; exact absurd hm_13 (Nat.not_lt_zero _)
      | succ fu ih_13 =>
        intro k hk hm_13
        refine g_iload_n hC dX12_keep_13 rfl 0 rfl ?_
        refine g_bipush (v := (nI 105)) hC dX12_keep_14 (by decide) ?_
        refine g_icmp_geN (tgt := 43) hC dX12_keep_16 (by decide) (by omega) (by omega) (fun h_16 => ?_) (fun h_16 => ?_)
        · refine g_aload_n hC dX12_keep_43 rfl 1 rfl ?_
          refine g_get hC 0 12 0 inX12 m3_208 dX12_keep_44 rfl rfl (by decide) rfl ?_
          refine g_iconst (v := (nI 4)) hC dX12_keep_47 (by decide) ?_
          refine g_bipush (v := (nI 7)) hC dX12_keep_48 (by decide) ?_
          refine g_iastN hC 1 [(q 0, .inr (12, oM q ab be fe fc mo bl ta tl tkn va)), (q 1, .inl (E.2.1 0, 188, .inl (upd (cpy a 83 68 k) 4 (nI 7))))] dX12_keep_50 rfl (by decide) (by omega) rfl ?_
          refine g_lv (lv' := [(0, .ref (q 0))]) [1] rfl ?_
          exact J_51 (upd (cpy a 83 68 k) 4 (nI 7)) 7 (by first | exact hu.1 | exact upd_s _ _ _) (by omega) (by unfold kpF; rw [if_pos (by omega), show k = 105 by omega])
        · refine g_aload_n hC dX12_keep_19 rfl 1 rfl ?_
          refine g_get hC 0 12 0 inX12 m3_208 dX12_keep_20 rfl rfl (by decide) rfl ?_
          refine g_bipush (v := (nI 68)) hC dX12_keep_23 (by decide) ?_
          refine g_iload_n hC dX12_keep_25 rfl 0 rfl ?_
          refine g_iaddN hC dX12_keep_26 ?_
          refine g_aload_n hC dX12_keep_27 rfl 1 rfl ?_
          refine g_get hC 0 12 0 inX12 m3_208 dX12_keep_28 rfl rfl (by decide) rfl ?_
          refine g_bipush (v := (nI 83)) hC dX12_keep_31 (by decide) ?_
          refine g_iload_n hC dX12_keep_33 rfl 0 rfl ?_
          refine g_iaddN hC dX12_keep_34 ?_
          refine g_ialdN hC 1 dX12_keep_35 rfl (by decide) (by omega) ?_
          refine g_val (v' := .int (a (83 + k))) (by rw [cpy_out (by omega)]) ?_
          refine g_iastN hC 1 [(q 0, .inr (12, oM q ab be fe fc mo bl ta tl tkn va)), (q 1, .inl (E.2.1 0, 188, .inl (upd (cpy a 83 68 k) (68 + k) (a (83 + k)))))] dX12_keep_36 rfl (by decide) (by omega) rfl ?_
          refine g_iincN hC (q := 0) 1 [(1, .int (nI (k + 1))), (0, .ref (q 0))] dX12_keep_37 rfl rfl (by decide) rfl ?_
          refine g_goto (tgt := 13) hC dX12_keep_40 (by decide) ?_
          refine g_lv (lv' := [(1, .int (nI (k + 1))), (0, .ref (q 0))]) [0, 1] rfl ?_
          refine g_ws (ws' := [(q 0, .inr (12, oM q ab be fe fc mo bl ta tl tkn va)), (q 1, .inl (E.2.1 0, 188, .inl (cpy a 83 68 (k + 1))))]) (by rw [cpy_s]) ?_
          exact ih_13 (k + 1) (by omega) (by omega)
    refine g_lv (lv' := [(1, .int (nI 0)), (0, .ref (q 0))]) [0, 1] rfl ?_
    refine g_ws (ws' := [(q 0, .inr (12, oM q ab be fe fc mo bl ta tl tkn va)), (q 1, .inl (E.2.1 0, 188, .inl (cpy a 83 68 0)))]) (by rw [cpy_0]) ?_
    exact L_13 ((105 - 0) + 1) 0 (by omega) (Nat.lt_succ_self _)
set_option maxHeartbeats 4000000 in
set_option maxRecDepth 100000 in
theorem f_X12_hamlet_ok (l : Launch) (E : Ew) (q : Nat → Nat) (ab : Int64) (be : Int64) (fe : Int32) (fc : Int32) (mo : Int32) (bl : Int32) (ta : Int32) (tl : Int32) (tkn : Int32) (va : Int32) (a : Nat → Int32) (r : Nat → Int32) (dy : Nat) (hdy : dy < 100) : Fn l E 1 yX12_hamlet cX12_hamlet 3 (some .int) [.ref (q 0), .int (nI dy)] [(q 0, .inr (12, oM q ab be fe fc mo bl ta tl tkn va)), (q 1, .inl (E.2.1 0, 188, .inl a)), (q 4, .inl (E.2.1 0, 3, .inl r))] (some (.int (a 0))) [(q 0, .inr (12, oM q ab be fe fc mo bl ta tl tkn va)), (q 1, .inl (E.2.1 0, 188, .inl (beg a (nI dy)))), (q 4, .inl (E.2.1 0, 3, .inl r))] := by
  refine fn_I (by decide) (Nat.le_of_ble_eq_true rfl) rfl ?_
  intro K hC hR
  show G K E 3 [(q 0, .inr (12, oM q ab be fe fc mo bl ta tl tkn va)), (q 1, .inl (E.2.1 0, 188, .inl a)), (q 4, .inl (E.2.1 0, 3, .inl r))] [(0, .ref (q 0)), (1, .int (nI dy))] 0 []
  refine g_iload_n hC dX12_hamlet_0 rfl 1 rfl ?_
  refine g_i2l hC dX12_hamlet_1 ?_
  refine g_lconst (v := 0) hC dX12_hamlet_2 (by decide) ?_
  refine g_ldc2 (v := 99) hC dX12_hamlet_3 m4_30 ?_
  refine g_callS hC (f_X12_in (kl K) E ((nI dy).toInt64) 0 99) wX12_in m4_31 dX12_hamlet_6 [] [(q 0, .inr (12, oM q ab be fe fc mo bl ta tl tkn va)), (q 1, .inl (E.2.1 0, 188, .inl a)), (q 4, .inl (E.2.1 0, 3, .inl r))] (by decide) rfl (Nat.le_of_ble_eq_true rfl) rfl rfl rfl rfl rfl ?_
  refine g_val (v' := .int (bI (inB (nI dy) 100))) (by rw [inlC (n := 100) (by decide)]) ?_
  refine g_if_neB (tgt := 19) hC dX12_hamlet_9 (by decide) (fun h_9 => ?_) (fun h_9 => ?_)
  · refine g_aload_n hC dX12_hamlet_19 rfl 0 rfl ?_
    refine g_callV hC (f_X12_many (kl K) E q ab be fe fc mo bl ta tl tkn va a) wX12_many m4_38 dX12_hamlet_20 [0, 1] [(q 0, .inr (12, oM q ab be fe fc mo bl ta tl tkn va)), (q 1, .inl (E.2.1 0, 188, .inl a)), (q 4, .inl (E.2.1 0, 3, .inl r))] 0 12 rfl rfl (by decide) rfl (Nat.le_of_ble_eq_true rfl) rfl rfl rfl rfl rfl ?_
    refine g_istore_n hC [(2, .int (a 0)), (0, .ref (q 0)), (1, .int (nI dy))] dX12_hamlet_23 rfl (by decide) rfl ?_
    refine g_aload_n hC dX12_hamlet_24 rfl 1 rfl ?_
    refine g_get hC 0 12 0 inX12 m3_208 dX12_hamlet_25 rfl rfl (by decide) rfl ?_
    refine g_iload_n hC dX12_hamlet_28 rfl 2 rfl ?_
    refine g_callS hC (f_X12_begin (kl K) E (q 1) a (nI dy)) wX12_begin m3_205 dX12_hamlet_29 [1] [(q 0, .inr (12, oM q ab be fe fc mo bl ta tl tkn va)), (q 1, .inl (E.2.1 0, 188, .inl (beg a (nI dy)))), (q 4, .inl (E.2.1 0, 3, .inl r))] (by decide) rfl (Nat.le_of_ble_eq_true rfl) rfl rfl rfl rfl rfl ?_
    refine g_iload_n hC dX12_hamlet_32 rfl 0 rfl ?_
    exact g_val (rfl) (g_ws (rfl) (hR _ _ dX12_hamlet_33))
  · exact Bool.noConfusion ((inB_ok (by omega) (by omega)).symm.trans h_9)
set_option maxHeartbeats 4000000 in
set_option maxRecDepth 100000 in
theorem f_X12_hamlet_bad (l : Launch) (E : Ew) (q : Nat → Nat) (ab : Int64) (be : Int64) (fe : Int32) (fc : Int32) (mo : Int32) (bl : Int32) (ta : Int32) (tl : Int32) (tkn : Int32) (va : Int32) (a : Nat → Int32) (r : Nat → Int32) (dy : Int32) (hb : inB dy 100 = false) : Fn l E 1 yX12_hamlet cX12_hamlet 3 (some .int) [.ref (q 0), .int dy] [(q 0, .inr (12, oM q ab be fe fc mo bl ta tl tkn va)), (q 1, .inl (E.2.1 0, 188, .inl a)), (q 4, .inl (E.2.1 0, 3, .inl r))] (some (.int (-2))) [(q 0, .inr (12, oM q ab be fe fc mo bl ta tl tkn va)), (q 1, .inl (E.2.1 0, 188, .inl a)), (q 4, .inl (E.2.1 0, 3, .inl (upd r 0 (r 0 + nI 1))))] := by
  refine fn_I (by decide) (Nat.le_of_ble_eq_true rfl) rfl ?_
  intro K hC hR
  show G K E 3 [(q 0, .inr (12, oM q ab be fe fc mo bl ta tl tkn va)), (q 1, .inl (E.2.1 0, 188, .inl a)), (q 4, .inl (E.2.1 0, 3, .inl r))] [(0, .ref (q 0)), (1, .int dy)] 0 []
  refine g_iload_n hC dX12_hamlet_0 rfl 1 rfl ?_
  refine g_i2l hC dX12_hamlet_1 ?_
  refine g_lconst (v := 0) hC dX12_hamlet_2 (by decide) ?_
  refine g_ldc2 (v := 99) hC dX12_hamlet_3 m4_30 ?_
  refine g_callS hC (f_X12_in (kl K) E dy.toInt64 0 99) wX12_in m4_31 dX12_hamlet_6 [] [(q 0, .inr (12, oM q ab be fe fc mo bl ta tl tkn va)), (q 1, .inl (E.2.1 0, 188, .inl a)), (q 4, .inl (E.2.1 0, 3, .inl r))] (by decide) rfl (Nat.le_of_ble_eq_true rfl) rfl rfl rfl rfl rfl ?_
  refine g_val (v' := .int (bI (inB dy 100))) (by rw [inlC (n := 100) (by decide)]) ?_
  refine g_if_neB (tgt := 19) hC dX12_hamlet_9 (by decide) (fun h_9 => ?_) (fun h_9 => ?_)
  · exact absurd h_9 (by rw [hb]; decide)
  · refine g_aload_n hC dX12_hamlet_12 rfl 0 rfl ?_
    refine g_bipush (v := (-2)) hC dX12_hamlet_13 (by decide) ?_
    refine g_callV hC (f_X12_bad (kl K) E q ab be fe fc mo bl ta tl tkn va r (-2)) wX12_bad m4_34 dX12_hamlet_15 [0, 2] [(q 0, .inr (12, oM q ab be fe fc mo bl ta tl tkn va)), (q 1, .inl (E.2.1 0, 188, .inl a)), (q 4, .inl (E.2.1 0, 3, .inl (upd r 0 (r 0 + nI 1))))] 0 12 rfl rfl (by decide) rfl (Nat.le_of_ble_eq_true rfl) rfl rfl rfl rfl rfl ?_
    exact g_val (rfl) (g_ws (rfl) (hR _ _ dX12_hamlet_18))
set_option maxHeartbeats 4000000 in
set_option maxRecDepth 100000 in
theorem f_X12_one_ok (l : Launch) (E : Ew) (q : Nat → Nat) (ab : Int64) (be : Int64) (fe : Int32) (fc : Int32) (mo : Int32) (bl : Int32) (ta : Int32) (tl : Int32) (tkn : Int32) (va : Int32) (a : Nat → Int32) (r : Nat → Int32) (n : Nat) (kd : Nat) (pl : Nat) (hn : a 0 = nI n) (hn7 : n < 7) (hkd : kd < 6) (hpl : pl < 10) : Fn l E 2 yX12_one cX12_one 3 (some .int) [.ref (q 0), .int (nI kd), .int (nI pl)] [(q 0, .inr (12, oM q ab be fe fc mo bl ta tl tkn va)), (q 1, .inl (E.2.1 0, 188, .inl a)), (q 4, .inl (E.2.1 0, 3, .inl r))] (some (.int (nI n))) [(q 0, .inr (12, oM q ab be fe fc mo bl ta tl tkn va)), (q 1, .inl (E.2.1 0, 188, .inl (upd (layF a kd pl n) 4 (nI 0)))), (q 4, .inl (E.2.1 0, 3, .inl r))] := by
  refine fn_I (by decide) (Nat.le_of_ble_eq_true rfl) rfl ?_
  intro K hC hR
  show G K E 3 [(q 0, .inr (12, oM q ab be fe fc mo bl ta tl tkn va)), (q 1, .inl (E.2.1 0, 188, .inl a)), (q 4, .inl (E.2.1 0, 3, .inl r))] [(0, .ref (q 0)), (1, .int (nI kd)), (2, .int (nI pl))] 0 []
  refine g_iload_n hC dX12_one_0 rfl 1 rfl ?_
  refine g_i2l hC dX12_one_1 ?_
  refine g_lconst (v := 0) hC dX12_one_2 (by decide) ?_
  refine g_ldc2 (v := 5) hC dX12_one_3 m4_46 ?_
  refine g_callS hC (f_X12_in (kl K) E ((nI kd).toInt64) 0 5) wX12_in m4_31 dX12_one_6 [] [(q 0, .inr (12, oM q ab be fe fc mo bl ta tl tkn va)), (q 1, .inl (E.2.1 0, 188, .inl a)), (q 4, .inl (E.2.1 0, 3, .inl r))] (by decide) rfl (Nat.le_of_ble_eq_true rfl) rfl rfl rfl rfl rfl ?_
  refine g_val (v' := .int (bI (inB (nI kd) 6))) (by rw [inlC (n := 6) (by decide)]) ?_
  refine g_if_eqB (tgt := 19) hC dX12_one_9 (by decide) (fun h_9 => ?_) (fun h_9 => ?_)
  · exact Bool.noConfusion ((inB_ok (by omega) (by omega)).symm.trans h_9)
  · refine g_iload_n hC dX12_one_12 rfl 2 rfl ?_
    refine g_callS hC (f_X12_isPlace (kl K) E (nI pl)) wX12_isPlace m4_47 dX12_one_13 [] [(q 0, .inr (12, oM q ab be fe fc mo bl ta tl tkn va)), (q 1, .inl (E.2.1 0, 188, .inl a)), (q 4, .inl (E.2.1 0, 3, .inl r))] (by decide) rfl (Nat.le_of_ble_eq_true rfl) rfl rfl rfl rfl rfl ?_
    refine g_if_neB (tgt := 26) hC dX12_one_16 (by decide) (fun h_16 => ?_) (fun h_16 => ?_)
    · refine g_aload_n hC dX12_one_26 rfl 0 rfl ?_
      refine g_callV hC (f_X12_many (kl K) E q ab be fe fc mo bl ta tl tkn va a) wX12_many m4_38 dX12_one_27 [0, 1] [(q 0, .inr (12, oM q ab be fe fc mo bl ta tl tkn va)), (q 1, .inl (E.2.1 0, 188, .inl a)), (q 4, .inl (E.2.1 0, 3, .inl r))] 0 12 rfl rfl (by decide) rfl (Nat.le_of_ble_eq_true rfl) rfl rfl rfl rfl rfl ?_
      refine g_val (v' := .int (nI n)) (by rw [hn]) ?_
      refine g_bipush (v := (nI 7)) hC dX12_one_30 (by decide) ?_
      refine g_icmp_neN (tgt := 40) hC dX12_one_32 (by decide) (by omega) (by omega) (fun h_32 => ?_) (fun h_32 => ?_)
      · refine g_aload_n hC dX12_one_40 rfl 0 rfl ?_
        refine g_get hC 0 12 0 inX12 m3_208 dX12_one_41 rfl rfl (by decide) rfl ?_
        refine g_iload_n hC dX12_one_44 rfl 1 rfl ?_
        refine g_iload_n hC dX12_one_45 rfl 2 rfl ?_
        refine g_callS hC (f_X12_layOne (kl K) E (q 1) a kd pl n (hn) (by omega)) wX12_layOne m4_55 dX12_one_46 [1] [(q 0, .inr (12, oM q ab be fe fc mo bl ta tl tkn va)), (q 1, .inl (E.2.1 0, 188, .inl (layF a kd pl n))), (q 4, .inl (E.2.1 0, 3, .inl r))] (by decide) rfl (Nat.le_of_ble_eq_true rfl) rfl rfl rfl rfl rfl ?_
        refine g_aload_n hC dX12_one_49 rfl 0 rfl ?_
        refine g_get hC 0 12 0 inX12 m3_208 dX12_one_50 rfl rfl (by decide) rfl ?_
        refine g_iconst (v := (nI 4)) hC dX12_one_53 (by decide) ?_
        refine g_iconst (v := (nI 0)) hC dX12_one_54 (by decide) ?_
        refine g_iastN hC 1 [(q 0, .inr (12, oM q ab be fe fc mo bl ta tl tkn va)), (q 1, .inl (E.2.1 0, 188, .inl (upd (layF a kd pl n) 4 (nI 0)))), (q 4, .inl (E.2.1 0, 3, .inl r))] dX12_one_55 rfl (by decide) (by omega) rfl ?_
        refine g_aload_n hC dX12_one_56 rfl 0 rfl ?_
        refine g_callV hC (f_X12_many (kl K) E q ab be fe fc mo bl ta tl tkn va (upd (layF a kd pl n) 4 (nI 0))) wX12_many m4_38 dX12_one_57 [0, 1] [(q 0, .inr (12, oM q ab be fe fc mo bl ta tl tkn va)), (q 1, .inl (E.2.1 0, 188, .inl (upd (layF a kd pl n) 4 (nI 0)))), (q 4, .inl (E.2.1 0, 3, .inl r))] 0 12 rfl rfl (by decide) rfl (Nat.le_of_ble_eq_true rfl) rfl rfl rfl rfl rfl ?_
        refine g_val (v' := .int (nI (n + 1))) (by rw [upd_n (by omega)]; unfold layF; rw [upd_s]) ?_
        refine g_iconst (v := (nI 1)) hC dX12_one_60 (by decide) ?_
        refine g_isubN hC dX12_one_61 (by omega) ?_
        exact g_val (rfl) (g_ws (rfl) (hR _ _ dX12_one_62))
      · omega
    · exact Bool.noConfusion ((inB_ok (by omega) (by omega)).symm.trans h_16)
set_option maxHeartbeats 4000000 in
set_option maxRecDepth 100000 in
theorem f_X12_one_full (l : Launch) (E : Ew) (q : Nat → Nat) (ab : Int64) (be : Int64) (fe : Int32) (fc : Int32) (mo : Int32) (bl : Int32) (ta : Int32) (tl : Int32) (tkn : Int32) (va : Int32) (a : Nat → Int32) (r : Nat → Int32) (kd : Nat) (pl : Nat) (hn : a 0 = nI 7) (hkd : kd < 6) (hpl : pl < 10) : Fn l E 2 yX12_one cX12_one 3 (some .int) [.ref (q 0), .int (nI kd), .int (nI pl)] [(q 0, .inr (12, oM q ab be fe fc mo bl ta tl tkn va)), (q 1, .inl (E.2.1 0, 188, .inl a)), (q 4, .inl (E.2.1 0, 3, .inl r))] (some (.int (-4))) [(q 0, .inr (12, oM q ab be fe fc mo bl ta tl tkn va)), (q 1, .inl (E.2.1 0, 188, .inl a)), (q 4, .inl (E.2.1 0, 3, .inl (upd r 2 (r 2 + nI 1))))] := by
  refine fn_I (by decide) (Nat.le_of_ble_eq_true rfl) rfl ?_
  intro K hC hR
  show G K E 3 [(q 0, .inr (12, oM q ab be fe fc mo bl ta tl tkn va)), (q 1, .inl (E.2.1 0, 188, .inl a)), (q 4, .inl (E.2.1 0, 3, .inl r))] [(0, .ref (q 0)), (1, .int (nI kd)), (2, .int (nI pl))] 0 []
  refine g_iload_n hC dX12_one_0 rfl 1 rfl ?_
  refine g_i2l hC dX12_one_1 ?_
  refine g_lconst (v := 0) hC dX12_one_2 (by decide) ?_
  refine g_ldc2 (v := 5) hC dX12_one_3 m4_46 ?_
  refine g_callS hC (f_X12_in (kl K) E ((nI kd).toInt64) 0 5) wX12_in m4_31 dX12_one_6 [] [(q 0, .inr (12, oM q ab be fe fc mo bl ta tl tkn va)), (q 1, .inl (E.2.1 0, 188, .inl a)), (q 4, .inl (E.2.1 0, 3, .inl r))] (by decide) rfl (Nat.le_of_ble_eq_true rfl) rfl rfl rfl rfl rfl ?_
  refine g_val (v' := .int (bI (inB (nI kd) 6))) (by rw [inlC (n := 6) (by decide)]) ?_
  refine g_if_eqB (tgt := 19) hC dX12_one_9 (by decide) (fun h_9 => ?_) (fun h_9 => ?_)
  · exact Bool.noConfusion ((inB_ok (by omega) (by omega)).symm.trans h_9)
  · refine g_iload_n hC dX12_one_12 rfl 2 rfl ?_
    refine g_callS hC (f_X12_isPlace (kl K) E (nI pl)) wX12_isPlace m4_47 dX12_one_13 [] [(q 0, .inr (12, oM q ab be fe fc mo bl ta tl tkn va)), (q 1, .inl (E.2.1 0, 188, .inl a)), (q 4, .inl (E.2.1 0, 3, .inl r))] (by decide) rfl (Nat.le_of_ble_eq_true rfl) rfl rfl rfl rfl rfl ?_
    refine g_if_neB (tgt := 26) hC dX12_one_16 (by decide) (fun h_16 => ?_) (fun h_16 => ?_)
    · refine g_aload_n hC dX12_one_26 rfl 0 rfl ?_
      refine g_callV hC (f_X12_many (kl K) E q ab be fe fc mo bl ta tl tkn va a) wX12_many m4_38 dX12_one_27 [0, 1] [(q 0, .inr (12, oM q ab be fe fc mo bl ta tl tkn va)), (q 1, .inl (E.2.1 0, 188, .inl a)), (q 4, .inl (E.2.1 0, 3, .inl r))] 0 12 rfl rfl (by decide) rfl (Nat.le_of_ble_eq_true rfl) rfl rfl rfl rfl rfl ?_
      refine g_val (v' := .int (nI 7)) (by rw [hn]) ?_
      refine g_bipush (v := (nI 7)) hC dX12_one_30 (by decide) ?_
      refine g_icmp_neN (tgt := 40) hC dX12_one_32 (by decide) (by omega) (by omega) (fun h_32 => ?_) (fun h_32 => ?_)
      · omega
      · refine g_aload_n hC dX12_one_35 rfl 0 rfl ?_
        refine g_callV hC (f_X12_full (kl K) E q ab be fe fc mo bl ta tl tkn va r) wX12_full m4_51 dX12_one_36 [0, 2] [(q 0, .inr (12, oM q ab be fe fc mo bl ta tl tkn va)), (q 1, .inl (E.2.1 0, 188, .inl a)), (q 4, .inl (E.2.1 0, 3, .inl (upd r 2 (r 2 + nI 1))))] 0 12 rfl rfl (by decide) rfl (Nat.le_of_ble_eq_true rfl) rfl rfl rfl rfl rfl ?_
        exact g_val (rfl) (g_ws (rfl) (hR _ _ dX12_one_39))
    · exact Bool.noConfusion ((inB_ok (by omega) (by omega)).symm.trans h_16)
set_option maxHeartbeats 4000000 in
set_option maxRecDepth 100000 in
theorem f_X12_one_bad (l : Launch) (E : Ew) (q : Nat → Nat) (ab : Int64) (be : Int64) (fe : Int32) (fc : Int32) (mo : Int32) (bl : Int32) (ta : Int32) (tl : Int32) (tkn : Int32) (va : Int32) (a : Nat → Int32) (r : Nat → Int32) (kd : Int32) (pl : Int32) (hb : (inB kd 6 && inB pl 10) = false) : Fn l E 2 yX12_one cX12_one 3 (some .int) [.ref (q 0), .int kd, .int pl] [(q 0, .inr (12, oM q ab be fe fc mo bl ta tl tkn va)), (q 1, .inl (E.2.1 0, 188, .inl a)), (q 4, .inl (E.2.1 0, 3, .inl r))] (some (.int (-2))) [(q 0, .inr (12, oM q ab be fe fc mo bl ta tl tkn va)), (q 1, .inl (E.2.1 0, 188, .inl a)), (q 4, .inl (E.2.1 0, 3, .inl (upd r 0 (r 0 + nI 1))))] := by
  refine fn_I (by decide) (Nat.le_of_ble_eq_true rfl) rfl ?_
  intro K hC hR
  show G K E 3 [(q 0, .inr (12, oM q ab be fe fc mo bl ta tl tkn va)), (q 1, .inl (E.2.1 0, 188, .inl a)), (q 4, .inl (E.2.1 0, 3, .inl r))] [(0, .ref (q 0)), (1, .int kd), (2, .int pl)] 0 []
  refine g_iload_n hC dX12_one_0 rfl 1 rfl ?_
  refine g_i2l hC dX12_one_1 ?_
  refine g_lconst (v := 0) hC dX12_one_2 (by decide) ?_
  refine g_ldc2 (v := 5) hC dX12_one_3 m4_46 ?_
  refine g_callS hC (f_X12_in (kl K) E kd.toInt64 0 5) wX12_in m4_31 dX12_one_6 [] [(q 0, .inr (12, oM q ab be fe fc mo bl ta tl tkn va)), (q 1, .inl (E.2.1 0, 188, .inl a)), (q 4, .inl (E.2.1 0, 3, .inl r))] (by decide) rfl (Nat.le_of_ble_eq_true rfl) rfl rfl rfl rfl rfl ?_
  refine g_val (v' := .int (bI (inB kd 6))) (by rw [inlC (n := 6) (by decide)]) ?_
  refine g_if_eqB (tgt := 19) hC dX12_one_9 (by decide) (fun h_9 => ?_) (fun h_9 => ?_)
  · refine g_aload_n hC dX12_one_19 rfl 0 rfl ?_
    refine g_bipush (v := (-2)) hC dX12_one_20 (by decide) ?_
    refine g_callV hC (f_X12_bad (kl K) E q ab be fe fc mo bl ta tl tkn va r (-2)) wX12_bad m4_34 dX12_one_22 [0, 2] [(q 0, .inr (12, oM q ab be fe fc mo bl ta tl tkn va)), (q 1, .inl (E.2.1 0, 188, .inl a)), (q 4, .inl (E.2.1 0, 3, .inl (upd r 0 (r 0 + nI 1))))] 0 12 rfl rfl (by decide) rfl (Nat.le_of_ble_eq_true rfl) rfl rfl rfl rfl rfl ?_
    exact g_val (rfl) (g_ws (rfl) (hR _ _ dX12_one_25))
  · refine g_iload_n hC dX12_one_12 rfl 2 rfl ?_
    refine g_callS hC (f_X12_isPlace (kl K) E pl) wX12_isPlace m4_47 dX12_one_13 [] [(q 0, .inr (12, oM q ab be fe fc mo bl ta tl tkn va)), (q 1, .inl (E.2.1 0, 188, .inl a)), (q 4, .inl (E.2.1 0, 3, .inl r))] (by decide) rfl (Nat.le_of_ble_eq_true rfl) rfl rfl rfl rfl rfl ?_
    refine g_if_neB (tgt := 26) hC dX12_one_16 (by decide) (fun h_16 => ?_) (fun h_16 => ?_)
    · exact absurd hb (by simp [h_9, h_16])
    · refine g_aload_n hC dX12_one_19 rfl 0 rfl ?_
      refine g_bipush (v := (-2)) hC dX12_one_20 (by decide) ?_
      refine g_callV hC (f_X12_bad (kl K) E q ab be fe fc mo bl ta tl tkn va r (-2)) wX12_bad m4_34 dX12_one_22 [0, 2] [(q 0, .inr (12, oM q ab be fe fc mo bl ta tl tkn va)), (q 1, .inl (E.2.1 0, 188, .inl a)), (q 4, .inl (E.2.1 0, 3, .inl (upd r 0 (r 0 + nI 1))))] 0 12 rfl rfl (by decide) rfl (Nat.le_of_ble_eq_true rfl) rfl rfl rfl rfl rfl ?_
      exact g_val (rfl) (g_ws (rfl) (hR _ _ dX12_one_25))
set_option maxHeartbeats 4000000 in
set_option maxRecDepth 100000 in
theorem f_X12_call_ok (l : Launch) (E : Ew) (q : Nat → Nat) (ab : Int64) (be : Int64) (fe : Int32) (fc : Int32) (mo : Int32) (bl : Int32) (ta : Int32) (tl : Int32) (tkn : Int32) (va : Int32) (a : Nat → Int32) (r : Nat → Int32) (g : Nat → Int32) (n : Nat) (x : Nat) (pl : Nat) (hn : a 0 = nI n) (hn7 : n ≤ 7) (hpk : ∀ p, p < n → isN (a (12 + p)) 10 ∧ isN (a (19 + p)) 6) (hu : isN (a 4) 9) (hx : x < n) (hpl : pl < 10) : Fn l E 4 yX12_call cX12_call 5 (some .int) [.ref (q 0), .int (nI x), .int (nI pl)] [(q 0, .inr (12, oM q ab be fe fc mo bl ta tl tkn va)), (q 1, .inl (E.2.1 0, 188, .inl a)), (q 4, .inl (E.2.1 0, 3, .inl r)), (q 5, .inl (E.2.1 0, 7, .inl g))] (some (.int (nI (TS a (nI x) pl n)))) [(q 0, .inr (12, oM q ab be fe fc mo bl ta tl tkn va)), (q 1, .inl (E.2.1 0, 188, .inl (calF a (nI x) pl n))), (q 4, .inl (E.2.1 0, 3, .inl r)), (q 5, .inl (E.2.1 0, 7, .inl (gT (hnd (kpF a) g n) (nI x) (tS (kpF a) (hnd (kpF a) g n) (nI x) pl n) n)))] := by
  refine fn_I (by decide) (Nat.le_of_ble_eq_true rfl) rfl ?_
  intro K hC hR
  show G K E 5 [(q 0, .inr (12, oM q ab be fe fc mo bl ta tl tkn va)), (q 1, .inl (E.2.1 0, 188, .inl a)), (q 4, .inl (E.2.1 0, 3, .inl r)), (q 5, .inl (E.2.1 0, 7, .inl g))] [(0, .ref (q 0)), (1, .int (nI x)), (2, .int (nI pl))] 0 []
  have hk0 : (kpF a) 0 = nI n := by rw [kpF_lo (by decide) (by decide)]; exact hn
  have hkpk : ∀ p, p < n → isN ((kpF a) (12 + p)) 10 ∧ isN ((kpF a) (19 + p)) 6 := fun p hp => by rw [kpF_lo (by omega) (by omega), kpF_lo (by omega) (by omega)]; exact hpk p hp
  have hts : tS (kpF a) (hnd (kpF a) g n) (nI x) pl n = TS a (nI x) pl n := tS_cong (fun p hp => ⟨kpF_lo (by omega) (by omega), kpF_lo (by omega) (by omega)⟩) (kpF_lo (by decide) (by decide)) (fun p hp => by rw [hnd_in hp, kpF_lo (by omega) (by omega)]; rfl)
  refine g_aload_n hC dX12_call_0 rfl 0 rfl ?_
  refine g_iload_n hC dX12_call_1 rfl 1 rfl ?_
  refine g_callV hC (f_X12_isOne (kl K) E q ab be fe fc mo bl ta tl tkn va a n (nI x) (hn) (by omega)) wX12_isOne m4_62 dX12_call_2 [0, 1] [(q 0, .inr (12, oM q ab be fe fc mo bl ta tl tkn va)), (q 1, .inl (E.2.1 0, 188, .inl a)), (q 4, .inl (E.2.1 0, 3, .inl r)), (q 5, .inl (E.2.1 0, 7, .inl g))] 0 12 rfl rfl (by decide) rfl (Nat.le_of_ble_eq_true rfl) rfl rfl rfl rfl rfl ?_
  refine g_if_eqB (tgt := 15) hC dX12_call_5 (by decide) (fun h_5 => ?_) (fun h_5 => ?_)
  · exact Bool.noConfusion ((inB_ok (by omega) (by omega)).symm.trans h_5)
  · refine g_iload_n hC dX12_call_8 rfl 2 rfl ?_
    refine g_callS hC (f_X12_isPlace (kl K) E (nI pl)) wX12_isPlace m4_47 dX12_call_9 [] [(q 0, .inr (12, oM q ab be fe fc mo bl ta tl tkn va)), (q 1, .inl (E.2.1 0, 188, .inl a)), (q 4, .inl (E.2.1 0, 3, .inl r)), (q 5, .inl (E.2.1 0, 7, .inl g))] (by decide) rfl (Nat.le_of_ble_eq_true rfl) rfl rfl rfl rfl rfl ?_
    refine g_if_neB (tgt := 22) hC dX12_call_12 (by decide) (fun h_12 => ?_) (fun h_12 => ?_)
    · refine g_aload_n hC dX12_call_22 rfl 0 rfl ?_
      refine g_callV hC (f_X12_keep (kl K) E q ab be fe fc mo bl ta tl tkn va a (hu)) wX12_keep m4_66 dX12_call_23 [0, 1] [(q 0, .inr (12, oM q ab be fe fc mo bl ta tl tkn va)), (q 1, .inl (E.2.1 0, 188, .inl (kpF a))), (q 4, .inl (E.2.1 0, 3, .inl r)), (q 5, .inl (E.2.1 0, 7, .inl g))] 0 12 rfl rfl (by decide) rfl (Nat.le_of_ble_eq_true rfl) rfl rfl rfl rfl rfl ?_
      refine g_aload_n hC dX12_call_26 rfl 0 rfl ?_
      refine g_callV hC (f_X12_layHand (kl K) E q ab be fe fc mo bl ta tl tkn va (kpF a) g n (hk0) (hn7)) wX12_layHand m4_70 dX12_call_27 [0, 1, 3] [(q 0, .inr (12, oM q ab be fe fc mo bl ta tl tkn va)), (q 1, .inl (E.2.1 0, 188, .inl (kpF a))), (q 4, .inl (E.2.1 0, 3, .inl r)), (q 5, .inl (E.2.1 0, 7, .inl (hnd (kpF a) g n)))] 0 12 rfl rfl (by decide) rfl (Nat.le_of_ble_eq_true rfl) rfl rfl rfl rfl rfl ?_
      refine g_aload_n hC dX12_call_30 rfl 0 rfl ?_
      refine g_iload_n hC dX12_call_31 rfl 1 rfl ?_
      refine g_iload_n hC dX12_call_32 rfl 2 rfl ?_
      refine g_callV hC (f_X12_goCall (kl K) E q ab be fe fc mo bl ta tl tkn va (kpF a) (hnd (kpF a) g n) n (nI x) pl (hk0) (hn7) (hkpk) (by omega)) wX12_goCall m4_74 dX12_call_33 [0, 1, 3] [(q 0, .inr (12, oM q ab be fe fc mo bl ta tl tkn va)), (q 1, .inl (E.2.1 0, 188, .inl (kpF a))), (q 4, .inl (E.2.1 0, 3, .inl r)), (q 5, .inl (E.2.1 0, 7, .inl (gT (hnd (kpF a) g n) (nI x) (tS (kpF a) (hnd (kpF a) g n) (nI x) pl n) n)))] 0 12 rfl rfl (by decide) rfl (Nat.le_of_ble_eq_true rfl) rfl rfl rfl rfl rfl ?_
      refine g_istore_n hC [(3, .int (nI (tS (kpF a) (hnd (kpF a) g n) (nI x) pl n))), (0, .ref (q 0)), (1, .int (nI x)), (2, .int (nI pl))] dX12_call_36 rfl (by decide) rfl ?_
      refine g_iconst (v := (nI 0)) hC dX12_call_37 (by decide) ?_
      refine g_istore hC [(4, .int (nI 0)), (3, .int (nI (tS (kpF a) (hnd (kpF a) g n) (nI x) pl n))), (0, .ref (q 0)), (1, .int (nI x)), (2, .int (nI pl))] dX12_call_38 (by decide) rfl ?_
      have L_40 : ∀ (fu : Nat) (k : Nat) (hk : k ≤ n), n - k < fu → G K E 5 [(q 0, .inr (12, oM q ab be fe fc mo bl ta tl tkn va)), (q 1, .inl (E.2.1 0, 188, .inl (nmd (kpF a) (gT (hnd (kpF a) g n) (nI x) (tS (kpF a) (hnd (kpF a) g n) (nI x) pl n) n) k))), (q 4, .inl (E.2.1 0, 3, .inl r)), (q 5, .inl (E.2.1 0, 7, .inl (gT (hnd (kpF a) g n) (nI x) (tS (kpF a) (hnd (kpF a) g n) (nI x) pl n) n)))] [(4, .int (nI k)), (3, .int (nI (tS (kpF a) (hnd (kpF a) g n) (nI x) pl n))), (0, .ref (q 0))] 40 [] := by
        intro fu
        induction fu with
        | zero => intro k hk hm_40; exact absurd hm_40 (Nat.not_lt_zero _)
        | succ fu ih_40 =>
          intro k hk hm_40
          refine g_iload hC dX12_call_40 0 rfl ?_
          refine g_aload_n hC dX12_call_42 rfl 2 rfl ?_
          refine g_callV hC (f_X12_many (kl K) E q ab be fe fc mo bl ta tl tkn va (nmd (kpF a) (gT (hnd (kpF a) g n) (nI x) (tS (kpF a) (hnd (kpF a) g n) (nI x) pl n) n) k)) wX12_many m4_38 dX12_call_43 [0, 1] [(q 0, .inr (12, oM q ab be fe fc mo bl ta tl tkn va)), (q 1, .inl (E.2.1 0, 188, .inl (nmd (kpF a) (gT (hnd (kpF a) g n) (nI x) (tS (kpF a) (hnd (kpF a) g n) (nI x) pl n) n) k))), (q 4, .inl (E.2.1 0, 3, .inl r)), (q 5, .inl (E.2.1 0, 7, .inl (gT (hnd (kpF a) g n) (nI x) (tS (kpF a) (hnd (kpF a) g n) (nI x) pl n) n)))] 0 12 rfl rfl (by decide) rfl (Nat.le_of_ble_eq_true rfl) rfl rfl rfl rfl rfl ?_
          refine g_val (v' := .int (nI n)) (by rw [nmd_out (by omega), hk0]) ?_
          refine g_icmp_geN (tgt := 71) hC dX12_call_46 (by decide) (by omega) (by omega) (fun h_46 => ?_) (fun h_46 => ?_)
          · refine g_iload_n hC dX12_call_71 rfl 1 rfl ?_
            exact g_val (by rw [hts]) (g_ws (by rw [show k = n by omega, calF, ← hts]; rw [nmd_cong (gT_cong (g := hnd (kpF a) g n) (g' := N5 a) (fun p hp => by rw [hnd_in hp, kpF_lo (by omega) (by omega)]; rfl))]) (hR _ _ dX12_call_72))
          · refine g_aload_n hC dX12_call_49 rfl 2 rfl ?_
            refine g_get hC 0 12 0 inX12 m3_208 dX12_call_50 rfl rfl (by decide) rfl ?_
            refine g_iconst (v := (nI 5)) hC dX12_call_53 (by decide) ?_
            refine g_iload hC dX12_call_54 0 rfl ?_
            refine g_iaddN hC dX12_call_56 ?_
            refine g_aload_n hC dX12_call_57 rfl 2 rfl ?_
            refine g_get hC 0 12 6 inX12 m3_214 dX12_call_58 rfl rfl (by decide) rfl ?_
            refine g_iload hC dX12_call_61 0 rfl ?_
            refine g_ialdN hC 3 dX12_call_63 rfl (by decide) (by omega) ?_
            refine g_iastN hC 1 [(q 0, .inr (12, oM q ab be fe fc mo bl ta tl tkn va)), (q 1, .inl (E.2.1 0, 188, .inl (upd (nmd (kpF a) (gT (hnd (kpF a) g n) (nI x) (tS (kpF a) (hnd (kpF a) g n) (nI x) pl n) n) k) (5 + k) ((gT (hnd (kpF a) g n) (nI x) (tS (kpF a) (hnd (kpF a) g n) (nI x) pl n) n) k)))), (q 4, .inl (E.2.1 0, 3, .inl r)), (q 5, .inl (E.2.1 0, 7, .inl (gT (hnd (kpF a) g n) (nI x) (tS (kpF a) (hnd (kpF a) g n) (nI x) pl n) n)))] dX12_call_64 rfl (by decide) (by omega) rfl ?_
            refine g_iincN hC (q := 0) 1 [(4, .int (nI (k + 1))), (3, .int (nI (tS (kpF a) (hnd (kpF a) g n) (nI x) pl n))), (0, .ref (q 0))] dX12_call_65 rfl rfl (by decide) rfl ?_
            refine g_goto (tgt := 40) hC dX12_call_68 (by decide) ?_
            refine g_lv (lv' := [(4, .int (nI (k + 1))), (3, .int (nI (tS (kpF a) (hnd (kpF a) g n) (nI x) pl n))), (0, .ref (q 0))]) [0, 1, 2] rfl ?_
            refine g_ws (ws' := [(q 0, .inr (12, oM q ab be fe fc mo bl ta tl tkn va)), (q 1, .inl (E.2.1 0, 188, .inl (nmd (kpF a) (gT (hnd (kpF a) g n) (nI x) (tS (kpF a) (hnd (kpF a) g n) (nI x) pl n) n) (k + 1)))), (q 4, .inl (E.2.1 0, 3, .inl r)), (q 5, .inl (E.2.1 0, 7, .inl (gT (hnd (kpF a) g n) (nI x) (tS (kpF a) (hnd (kpF a) g n) (nI x) pl n) n)))]) (by rw [nmd_s]) ?_
            exact ih_40 (k + 1) (by omega) (by omega)
      refine g_lv (lv' := [(4, .int (nI 0)), (3, .int (nI (tS (kpF a) (hnd (kpF a) g n) (nI x) pl n))), (0, .ref (q 0))]) [0, 1, 2] rfl ?_
      refine g_ws (ws' := [(q 0, .inr (12, oM q ab be fe fc mo bl ta tl tkn va)), (q 1, .inl (E.2.1 0, 188, .inl (nmd (kpF a) (gT (hnd (kpF a) g n) (nI x) (tS (kpF a) (hnd (kpF a) g n) (nI x) pl n) n) 0))), (q 4, .inl (E.2.1 0, 3, .inl r)), (q 5, .inl (E.2.1 0, 7, .inl (gT (hnd (kpF a) g n) (nI x) (tS (kpF a) (hnd (kpF a) g n) (nI x) pl n) n)))]) (by rw [nmd_0]) ?_
      exact L_40 ((n - 0) + 1) 0 (by omega) (Nat.lt_succ_self _)
    · exact Bool.noConfusion ((inB_ok (by omega) (by omega)).symm.trans h_12)
set_option maxHeartbeats 4000000 in
set_option maxRecDepth 100000 in
theorem f_X12_call_bad (l : Launch) (E : Ew) (q : Nat → Nat) (ab : Int64) (be : Int64) (fe : Int32) (fc : Int32) (mo : Int32) (bl : Int32) (ta : Int32) (tl : Int32) (tkn : Int32) (va : Int32) (a : Nat → Int32) (r : Nat → Int32) (n : Nat) (x : Int32) (pl : Int32) (hn : a 0 = nI n) (hn7 : n ≤ 7) (hb : (inB x n && inB pl 10) = false) : Fn l E 2 yX12_call cX12_call 5 (some .int) [.ref (q 0), .int x, .int pl] [(q 0, .inr (12, oM q ab be fe fc mo bl ta tl tkn va)), (q 1, .inl (E.2.1 0, 188, .inl a)), (q 4, .inl (E.2.1 0, 3, .inl r))] (some (.int (-2))) [(q 0, .inr (12, oM q ab be fe fc mo bl ta tl tkn va)), (q 1, .inl (E.2.1 0, 188, .inl a)), (q 4, .inl (E.2.1 0, 3, .inl (upd r 0 (r 0 + nI 1))))] := by
  refine fn_I (by decide) (Nat.le_of_ble_eq_true rfl) rfl ?_
  intro K hC hR
  show G K E 5 [(q 0, .inr (12, oM q ab be fe fc mo bl ta tl tkn va)), (q 1, .inl (E.2.1 0, 188, .inl a)), (q 4, .inl (E.2.1 0, 3, .inl r))] [(0, .ref (q 0)), (1, .int x), (2, .int pl)] 0 []
  refine g_aload_n hC dX12_call_0 rfl 0 rfl ?_
  refine g_iload_n hC dX12_call_1 rfl 1 rfl ?_
  refine g_callV hC (f_X12_isOne (kl K) E q ab be fe fc mo bl ta tl tkn va a n x (hn) (by omega)) wX12_isOne m4_62 dX12_call_2 [0, 1] [(q 0, .inr (12, oM q ab be fe fc mo bl ta tl tkn va)), (q 1, .inl (E.2.1 0, 188, .inl a)), (q 4, .inl (E.2.1 0, 3, .inl r))] 0 12 rfl rfl (by decide) rfl (Nat.le_of_ble_eq_true rfl) rfl rfl rfl rfl rfl ?_
  refine g_if_eqB (tgt := 15) hC dX12_call_5 (by decide) (fun h_5 => ?_) (fun h_5 => ?_)
  · refine g_aload_n hC dX12_call_15 rfl 0 rfl ?_
    refine g_bipush (v := (-2)) hC dX12_call_16 (by decide) ?_
    refine g_callV hC (f_X12_bad (kl K) E q ab be fe fc mo bl ta tl tkn va r (-2)) wX12_bad m4_34 dX12_call_18 [0, 2] [(q 0, .inr (12, oM q ab be fe fc mo bl ta tl tkn va)), (q 1, .inl (E.2.1 0, 188, .inl a)), (q 4, .inl (E.2.1 0, 3, .inl (upd r 0 (r 0 + nI 1))))] 0 12 rfl rfl (by decide) rfl (Nat.le_of_ble_eq_true rfl) rfl rfl rfl rfl rfl ?_
    exact g_val (rfl) (g_ws (rfl) (hR _ _ dX12_call_21))
  · refine g_iload_n hC dX12_call_8 rfl 2 rfl ?_
    refine g_callS hC (f_X12_isPlace (kl K) E pl) wX12_isPlace m4_47 dX12_call_9 [] [(q 0, .inr (12, oM q ab be fe fc mo bl ta tl tkn va)), (q 1, .inl (E.2.1 0, 188, .inl a)), (q 4, .inl (E.2.1 0, 3, .inl r))] (by decide) rfl (Nat.le_of_ble_eq_true rfl) rfl rfl rfl rfl rfl ?_
    refine g_if_neB (tgt := 22) hC dX12_call_12 (by decide) (fun h_12 => ?_) (fun h_12 => ?_)
    · exact absurd hb (by simp [h_5, h_12])
    · refine g_aload_n hC dX12_call_15 rfl 0 rfl ?_
      refine g_bipush (v := (-2)) hC dX12_call_16 (by decide) ?_
      refine g_callV hC (f_X12_bad (kl K) E q ab be fe fc mo bl ta tl tkn va r (-2)) wX12_bad m4_34 dX12_call_18 [0, 2] [(q 0, .inr (12, oM q ab be fe fc mo bl ta tl tkn va)), (q 1, .inl (E.2.1 0, 188, .inl a)), (q 4, .inl (E.2.1 0, 3, .inl (upd r 0 (r 0 + nI 1))))] 0 12 rfl rfl (by decide) rfl (Nat.le_of_ble_eq_true rfl) rfl rfl rfl rfl rfl ?_
      exact g_val (rfl) (g_ws (rfl) (hR _ _ dX12_call_21))
set_option maxHeartbeats 4000000 in
set_option maxRecDepth 100000 in
theorem f_X12_goes_bad (l : Launch) (E : Ew) (q : Nat → Nat) (ab : Int64) (be : Int64) (fe : Int32) (fc : Int32) (mo : Int32) (bl : Int32) (ta : Int32) (tl : Int32) (tkn : Int32) (va : Int32) (a : Nat → Int32) (r : Nat → Int32) (n : Nat) (x : Int32) (pl : Int32) (hn : a 0 = nI n) (hn7 : n ≤ 7) (hb : (inB x n && inB pl 10) = false) : Fn l E 2 yX12_goes cX12_goes 4 (some .int) [.ref (q 0), .int x, .int pl] [(q 0, .inr (12, oM q ab be fe fc mo bl ta tl tkn va)), (q 1, .inl (E.2.1 0, 188, .inl a)), (q 4, .inl (E.2.1 0, 3, .inl r))] (some (.int (-2))) [(q 0, .inr (12, oM q ab be fe fc mo bl ta tl tkn va)), (q 1, .inl (E.2.1 0, 188, .inl a)), (q 4, .inl (E.2.1 0, 3, .inl (upd r 0 (r 0 + nI 1))))] := by
  refine fn_I (by decide) (Nat.le_of_ble_eq_true rfl) rfl ?_
  intro K hC hR
  show G K E 4 [(q 0, .inr (12, oM q ab be fe fc mo bl ta tl tkn va)), (q 1, .inl (E.2.1 0, 188, .inl a)), (q 4, .inl (E.2.1 0, 3, .inl r))] [(0, .ref (q 0)), (1, .int x), (2, .int pl)] 0 []
  refine g_aload_n hC dX12_goes_0 rfl 0 rfl ?_
  refine g_iload_n hC dX12_goes_1 rfl 1 rfl ?_
  refine g_callV hC (f_X12_isOne (kl K) E q ab be fe fc mo bl ta tl tkn va a n x (hn) (by omega)) wX12_isOne m4_62 dX12_goes_2 [0, 1] [(q 0, .inr (12, oM q ab be fe fc mo bl ta tl tkn va)), (q 1, .inl (E.2.1 0, 188, .inl a)), (q 4, .inl (E.2.1 0, 3, .inl r))] 0 12 rfl rfl (by decide) rfl (Nat.le_of_ble_eq_true rfl) rfl rfl rfl rfl rfl ?_
  refine g_if_eqB (tgt := 15) hC dX12_goes_5 (by decide) (fun h_5 => ?_) (fun h_5 => ?_)
  · refine g_aload_n hC dX12_goes_15 rfl 0 rfl ?_
    refine g_bipush (v := (-2)) hC dX12_goes_16 (by decide) ?_
    refine g_callV hC (f_X12_bad (kl K) E q ab be fe fc mo bl ta tl tkn va r (-2)) wX12_bad m4_34 dX12_goes_18 [0, 2] [(q 0, .inr (12, oM q ab be fe fc mo bl ta tl tkn va)), (q 1, .inl (E.2.1 0, 188, .inl a)), (q 4, .inl (E.2.1 0, 3, .inl (upd r 0 (r 0 + nI 1))))] 0 12 rfl rfl (by decide) rfl (Nat.le_of_ble_eq_true rfl) rfl rfl rfl rfl rfl ?_
    exact g_val (rfl) (g_ws (rfl) (hR _ _ dX12_goes_21))
  · refine g_iload_n hC dX12_goes_8 rfl 2 rfl ?_
    refine g_callS hC (f_X12_isPlace (kl K) E pl) wX12_isPlace m4_47 dX12_goes_9 [] [(q 0, .inr (12, oM q ab be fe fc mo bl ta tl tkn va)), (q 1, .inl (E.2.1 0, 188, .inl a)), (q 4, .inl (E.2.1 0, 3, .inl r))] (by decide) rfl (Nat.le_of_ble_eq_true rfl) rfl rfl rfl rfl rfl ?_
    refine g_if_neB (tgt := 22) hC dX12_goes_12 (by decide) (fun h_12 => ?_) (fun h_12 => ?_)
    · exact absurd hb (by simp [h_5, h_12])
    · refine g_aload_n hC dX12_goes_15 rfl 0 rfl ?_
      refine g_bipush (v := (-2)) hC dX12_goes_16 (by decide) ?_
      refine g_callV hC (f_X12_bad (kl K) E q ab be fe fc mo bl ta tl tkn va r (-2)) wX12_bad m4_34 dX12_goes_18 [0, 2] [(q 0, .inr (12, oM q ab be fe fc mo bl ta tl tkn va)), (q 1, .inl (E.2.1 0, 188, .inl a)), (q 4, .inl (E.2.1 0, 3, .inl (upd r 0 (r 0 + nI 1))))] 0 12 rfl rfl (by decide) rfl (Nat.le_of_ble_eq_true rfl) rfl rfl rfl rfl rfl ?_
      exact g_val (rfl) (g_ws (rfl) (hR _ _ dX12_goes_21))
set_option maxHeartbeats 4000000 in
set_option maxRecDepth 100000 in
theorem f_X12_turn_bad (l : Launch) (E : Ew) (q : Nat → Nat) (ab : Int64) (be : Int64) (fe : Int32) (fc : Int32) (mo : Int32) (bl : Int32) (ta : Int32) (tl : Int32) (tkn : Int32) (va : Int32) (a : Nat → Int32) (r : Nat → Int32) (n : Nat) (x : Int32) (pl : Int32) (hn : a 0 = nI n) (hn7 : n ≤ 7) (hb : (inB x n && inB pl 10) = false) : Fn l E 2 yX12_turn cX12_turn 3 (some .int) [.ref (q 0), .int x, .int pl] [(q 0, .inr (12, oM q ab be fe fc mo bl ta tl tkn va)), (q 1, .inl (E.2.1 0, 188, .inl a)), (q 4, .inl (E.2.1 0, 3, .inl r))] (some (.int (-2))) [(q 0, .inr (12, oM q ab be fe fc mo bl ta tl tkn va)), (q 1, .inl (E.2.1 0, 188, .inl a)), (q 4, .inl (E.2.1 0, 3, .inl (upd r 0 (r 0 + nI 1))))] := by
  refine fn_I (by decide) (Nat.le_of_ble_eq_true rfl) rfl ?_
  intro K hC hR
  show G K E 3 [(q 0, .inr (12, oM q ab be fe fc mo bl ta tl tkn va)), (q 1, .inl (E.2.1 0, 188, .inl a)), (q 4, .inl (E.2.1 0, 3, .inl r))] [(0, .ref (q 0)), (1, .int x), (2, .int pl)] 0 []
  refine g_aload_n hC dX12_turn_0 rfl 0 rfl ?_
  refine g_iload_n hC dX12_turn_1 rfl 1 rfl ?_
  refine g_callV hC (f_X12_isOne (kl K) E q ab be fe fc mo bl ta tl tkn va a n x (hn) (by omega)) wX12_isOne m4_62 dX12_turn_2 [0, 1] [(q 0, .inr (12, oM q ab be fe fc mo bl ta tl tkn va)), (q 1, .inl (E.2.1 0, 188, .inl a)), (q 4, .inl (E.2.1 0, 3, .inl r))] 0 12 rfl rfl (by decide) rfl (Nat.le_of_ble_eq_true rfl) rfl rfl rfl rfl rfl ?_
  refine g_if_eqB (tgt := 15) hC dX12_turn_5 (by decide) (fun h_5 => ?_) (fun h_5 => ?_)
  · refine g_aload_n hC dX12_turn_15 rfl 0 rfl ?_
    refine g_bipush (v := (-2)) hC dX12_turn_16 (by decide) ?_
    refine g_callV hC (f_X12_bad (kl K) E q ab be fe fc mo bl ta tl tkn va r (-2)) wX12_bad m4_34 dX12_turn_18 [0, 2] [(q 0, .inr (12, oM q ab be fe fc mo bl ta tl tkn va)), (q 1, .inl (E.2.1 0, 188, .inl a)), (q 4, .inl (E.2.1 0, 3, .inl (upd r 0 (r 0 + nI 1))))] 0 12 rfl rfl (by decide) rfl (Nat.le_of_ble_eq_true rfl) rfl rfl rfl rfl rfl ?_
    exact g_val (rfl) (g_ws (rfl) (hR _ _ dX12_turn_21))
  · refine g_iload_n hC dX12_turn_8 rfl 2 rfl ?_
    refine g_callS hC (f_X12_isPlace (kl K) E pl) wX12_isPlace m4_47 dX12_turn_9 [] [(q 0, .inr (12, oM q ab be fe fc mo bl ta tl tkn va)), (q 1, .inl (E.2.1 0, 188, .inl a)), (q 4, .inl (E.2.1 0, 3, .inl r))] (by decide) rfl (Nat.le_of_ble_eq_true rfl) rfl rfl rfl rfl rfl ?_
    refine g_if_neB (tgt := 22) hC dX12_turn_12 (by decide) (fun h_12 => ?_) (fun h_12 => ?_)
    · exact absurd hb (by simp [h_5, h_12])
    · refine g_aload_n hC dX12_turn_15 rfl 0 rfl ?_
      refine g_bipush (v := (-2)) hC dX12_turn_16 (by decide) ?_
      refine g_callV hC (f_X12_bad (kl K) E q ab be fe fc mo bl ta tl tkn va r (-2)) wX12_bad m4_34 dX12_turn_18 [0, 2] [(q 0, .inr (12, oM q ab be fe fc mo bl ta tl tkn va)), (q 1, .inl (E.2.1 0, 188, .inl a)), (q 4, .inl (E.2.1 0, 3, .inl (upd r 0 (r 0 + nI 1))))] 0 12 rfl rfl (by decide) rfl (Nat.le_of_ble_eq_true rfl) rfl rfl rfl rfl rfl ?_
      exact g_val (rfl) (g_ws (rfl) (hR _ _ dX12_turn_21))
set_option maxHeartbeats 4000000 in
set_option maxRecDepth 100000 in
theorem f_X12_goes_ok (l : Launch) (E : Ew) (q : Nat → Nat) (ab : Int64) (be : Int64) (fe : Int32) (fc : Int32) (mo : Int32) (bl : Int32) (ta : Int32) (tl : Int32) (tkn : Int32) (va : Int32) (a : Nat → Int32) (r : Nat → Int32) (n : Nat) (x : Nat) (pl : Nat) (hn : a 0 = nI n) (hn7 : n ≤ 7) (hu : isN (a 4) 9) (hx : x < n) (hpl : pl < 10) : Fn l E 2 yX12_goes cX12_goes 4 (some .int) [.ref (q 0), .int (nI x), .int (nI pl)] [(q 0, .inr (12, oM q ab be fe fc mo bl ta tl tkn va)), (q 1, .inl (E.2.1 0, 188, .inl a)), (q 4, .inl (E.2.1 0, 3, .inl r))] (some (.int (a (12 + x)))) [(q 0, .inr (12, oM q ab be fe fc mo bl ta tl tkn va)), (q 1, .inl (E.2.1 0, 188, .inl (upd (kpF a) (12 + x) (nI pl)))), (q 4, .inl (E.2.1 0, 3, .inl r))] := by
  refine fn_I (by decide) (Nat.le_of_ble_eq_true rfl) rfl ?_
  intro K hC hR
  show G K E 4 [(q 0, .inr (12, oM q ab be fe fc mo bl ta tl tkn va)), (q 1, .inl (E.2.1 0, 188, .inl a)), (q 4, .inl (E.2.1 0, 3, .inl r))] [(0, .ref (q 0)), (1, .int (nI x)), (2, .int (nI pl))] 0 []
  refine g_aload_n hC dX12_goes_0 rfl 0 rfl ?_
  refine g_iload_n hC dX12_goes_1 rfl 1 rfl ?_
  refine g_callV hC (f_X12_isOne (kl K) E q ab be fe fc mo bl ta tl tkn va a n (nI x) (hn) (by omega)) wX12_isOne m4_62 dX12_goes_2 [0, 1] [(q 0, .inr (12, oM q ab be fe fc mo bl ta tl tkn va)), (q 1, .inl (E.2.1 0, 188, .inl a)), (q 4, .inl (E.2.1 0, 3, .inl r))] 0 12 rfl rfl (by decide) rfl (Nat.le_of_ble_eq_true rfl) rfl rfl rfl rfl rfl ?_
  refine g_if_eqB (tgt := 15) hC dX12_goes_5 (by decide) (fun h_5 => ?_) (fun h_5 => ?_)
  · exact Bool.noConfusion ((inB_ok (by omega) (by omega)).symm.trans h_5)
  · refine g_iload_n hC dX12_goes_8 rfl 2 rfl ?_
    refine g_callS hC (f_X12_isPlace (kl K) E (nI pl)) wX12_isPlace m4_47 dX12_goes_9 [] [(q 0, .inr (12, oM q ab be fe fc mo bl ta tl tkn va)), (q 1, .inl (E.2.1 0, 188, .inl a)), (q 4, .inl (E.2.1 0, 3, .inl r))] (by decide) rfl (Nat.le_of_ble_eq_true rfl) rfl rfl rfl rfl rfl ?_
    refine g_if_neB (tgt := 22) hC dX12_goes_12 (by decide) (fun h_12 => ?_) (fun h_12 => ?_)
    · refine g_aload_n hC dX12_goes_22 rfl 0 rfl ?_
      refine g_get hC 0 12 0 inX12 m3_208 dX12_goes_23 rfl rfl (by decide) rfl ?_
      refine g_bipush (v := (nI 12)) hC dX12_goes_26 (by decide) ?_
      refine g_iload_n hC dX12_goes_28 rfl 1 rfl ?_
      refine g_iaddN hC dX12_goes_29 ?_
      refine g_ialdN hC 1 dX12_goes_30 rfl (by decide) (by omega) ?_
      refine g_istore_n hC [(3, .int (a (12 + x))), (0, .ref (q 0)), (1, .int (nI x)), (2, .int (nI pl))] dX12_goes_31 rfl (by decide) rfl ?_
      refine g_aload_n hC dX12_goes_32 rfl 1 rfl ?_
      refine g_callV hC (f_X12_keep (kl K) E q ab be fe fc mo bl ta tl tkn va a (hu)) wX12_keep m4_66 dX12_goes_33 [0, 1] [(q 0, .inr (12, oM q ab be fe fc mo bl ta tl tkn va)), (q 1, .inl (E.2.1 0, 188, .inl (kpF a))), (q 4, .inl (E.2.1 0, 3, .inl r))] 0 12 rfl rfl (by decide) rfl (Nat.le_of_ble_eq_true rfl) rfl rfl rfl rfl rfl ?_
      refine g_aload_n hC dX12_goes_36 rfl 1 rfl ?_
      refine g_get hC 0 12 0 inX12 m3_208 dX12_goes_37 rfl rfl (by decide) rfl ?_
      refine g_bipush (v := (nI 12)) hC dX12_goes_40 (by decide) ?_
      refine g_iload_n hC dX12_goes_42 rfl 2 rfl ?_
      refine g_iaddN hC dX12_goes_43 ?_
      refine g_iload_n hC dX12_goes_44 rfl 3 rfl ?_
      refine g_iastN hC 1 [(q 0, .inr (12, oM q ab be fe fc mo bl ta tl tkn va)), (q 1, .inl (E.2.1 0, 188, .inl (upd (kpF a) (12 + x) (nI pl)))), (q 4, .inl (E.2.1 0, 3, .inl r))] dX12_goes_45 rfl (by decide) (by omega) rfl ?_
      refine g_iload_n hC dX12_goes_46 rfl 0 rfl ?_
      exact g_val (rfl) (g_ws (rfl) (hR _ _ dX12_goes_47))
    · exact Bool.noConfusion ((inB_ok (by omega) (by omega)).symm.trans h_12)
set_option maxHeartbeats 4000000 in
set_option maxRecDepth 100000 in
theorem f_X12_day (l : Launch) (E : Ew) (q : Nat → Nat) (ab : Int64) (be : Int64) (fe : Int32) (fc : Int32) (mo : Int32) (bl : Int32) (ta : Int32) (tl : Int32) (tkn : Int32) (va : Int32) (a : Nat → Int32) (r : Nat → Int32) (hu : isN (a 4) 9) : Fn l E 1 yX12_day cX12_day 1 (some .int) [.ref (q 0)] [(q 0, .inr (12, oM q ab be fe fc mo bl ta tl tkn va)), (q 1, .inl (E.2.1 0, 188, .inl a)), (q 4, .inl (E.2.1 0, 3, .inl r))] (some (.int (a 1 + nI 1))) [(q 0, .inr (12, oM q ab be fe fc mo bl ta tl tkn va)), (q 1, .inl (E.2.1 0, 188, .inl (upd (kpF a) 1 (a 1 + nI 1)))), (q 4, .inl (E.2.1 0, 3, .inl r))] := by
  refine fn_I (by decide) (Nat.le_of_ble_eq_true rfl) rfl ?_
  intro K hC hR
  show G K E 1 [(q 0, .inr (12, oM q ab be fe fc mo bl ta tl tkn va)), (q 1, .inl (E.2.1 0, 188, .inl a)), (q 4, .inl (E.2.1 0, 3, .inl r))] [(0, .ref (q 0))] 0 []
  refine g_aload_n hC dX12_day_0 rfl 0 rfl ?_
  refine g_callV hC (f_X12_keep (kl K) E q ab be fe fc mo bl ta tl tkn va a (hu)) wX12_keep m4_66 dX12_day_1 [0, 1] [(q 0, .inr (12, oM q ab be fe fc mo bl ta tl tkn va)), (q 1, .inl (E.2.1 0, 188, .inl (kpF a))), (q 4, .inl (E.2.1 0, 3, .inl r))] 0 12 rfl rfl (by decide) rfl (Nat.le_of_ble_eq_true rfl) rfl rfl rfl rfl rfl ?_
  refine g_aload_n hC dX12_day_4 rfl 0 rfl ?_
  refine g_get hC 0 12 0 inX12 m3_208 dX12_day_5 rfl rfl (by decide) rfl ?_
  refine g_iconst (v := (nI 1)) hC dX12_day_8 (by decide) ?_
  refine g_dup2 hC dX12_day_9 rfl rfl ?_
  refine g_ialdN hC 1 dX12_day_10 rfl (by decide) (by omega) ?_
  refine g_val (v' := .int (a 1)) (by rw [kpF_lo (by decide) (by decide)]) ?_
  refine g_iconst (v := (nI 1)) hC dX12_day_11 (by decide) ?_
  refine g_iadd hC dX12_day_12 ?_
  refine g_iastN hC 1 [(q 0, .inr (12, oM q ab be fe fc mo bl ta tl tkn va)), (q 1, .inl (E.2.1 0, 188, .inl (upd (kpF a) 1 (a 1 + (nI 1))))), (q 4, .inl (E.2.1 0, 3, .inl r))] dX12_day_13 rfl (by decide) (by omega) rfl ?_
  refine g_aload_n hC dX12_day_14 rfl 0 rfl ?_
  refine g_get hC 0 12 0 inX12 m3_208 dX12_day_15 rfl rfl (by decide) rfl ?_
  refine g_iconst (v := (nI 1)) hC dX12_day_18 (by decide) ?_
  refine g_ialdN hC 1 dX12_day_19 rfl (by decide) (by omega) ?_
  refine g_val (v' := .int (a 1 + nI 1)) (by rw [upd_s]) ?_
  exact g_val (rfl) (g_ws (rfl) (hR _ _ dX12_day_20))
set_option maxHeartbeats 4000000 in
set_option maxRecDepth 100000 in
theorem f_X12_undo_no (l : Launch) (E : Ew) (q : Nat → Nat) (ab : Int64) (be : Int64) (fe : Int32) (fc : Int32) (mo : Int32) (bl : Int32) (ta : Int32) (tl : Int32) (tkn : Int32) (va : Int32) (a : Nat → Int32) (r : Nat → Int32) (h4 : a 4 = nI 0) : Fn l E 1 yX12_undo cX12_undo 3 (some .int) [.ref (q 0)] [(q 0, .inr (12, oM q ab be fe fc mo bl ta tl tkn va)), (q 1, .inl (E.2.1 0, 188, .inl a)), (q 4, .inl (E.2.1 0, 3, .inl r))] (some (.int (-3))) [(q 0, .inr (12, oM q ab be fe fc mo bl ta tl tkn va)), (q 1, .inl (E.2.1 0, 188, .inl a)), (q 4, .inl (E.2.1 0, 3, .inl (upd r 1 (r 1 + nI 1))))] := by
  refine fn_I (by decide) (Nat.le_of_ble_eq_true rfl) rfl ?_
  intro K hC hR
  show G K E 3 [(q 0, .inr (12, oM q ab be fe fc mo bl ta tl tkn va)), (q 1, .inl (E.2.1 0, 188, .inl a)), (q 4, .inl (E.2.1 0, 3, .inl r))] [(0, .ref (q 0))] 0 []
  refine g_aload_n hC dX12_undo_0 rfl 0 rfl ?_
  refine g_get hC 0 12 0 inX12 m3_208 dX12_undo_1 rfl rfl (by decide) rfl ?_
  refine g_iconst (v := (nI 4)) hC dX12_undo_4 (by decide) ?_
  refine g_ialdN hC 1 dX12_undo_5 rfl (by decide) (by omega) ?_
  refine g_val (v' := .int (nI 0)) (by rw [h4]) ?_
  refine g_if_neN (tgt := 14) hC dX12_undo_6 (by decide) (by omega) (fun h_6 => ?_) (fun h_6 => ?_)
  · omega
  · refine g_aload_n hC dX12_undo_9 rfl 0 rfl ?_
    refine g_callV hC (f_X12_no (kl K) E q ab be fe fc mo bl ta tl tkn va r) wX12_no m4_111 dX12_undo_10 [0, 2] [(q 0, .inr (12, oM q ab be fe fc mo bl ta tl tkn va)), (q 1, .inl (E.2.1 0, 188, .inl a)), (q 4, .inl (E.2.1 0, 3, .inl (upd r 1 (r 1 + nI 1))))] 0 12 rfl rfl (by decide) rfl (Nat.le_of_ble_eq_true rfl) rfl rfl rfl rfl rfl ?_
    exact g_val (rfl) (g_ws (rfl) (hR _ _ dX12_undo_13))
set_option maxHeartbeats 4000000 in
set_option maxRecDepth 100000 in
theorem f_X12_undo_ok (l : Launch) (E : Ew) (q : Nat → Nat) (ab : Int64) (be : Int64) (fe : Int32) (fc : Int32) (mo : Int32) (bl : Int32) (ta : Int32) (tl : Int32) (tkn : Int32) (va : Int32) (a : Nat → Int32) (r : Nat → Int32) (u : Nat) (h4 : a 4 = nI (u + 1)) (hu : u < 8) : Fn l E 1 yX12_undo cX12_undo 3 (some .int) [.ref (q 0)] [(q 0, .inr (12, oM q ab be fe fc mo bl ta tl tkn va)), (q 1, .inl (E.2.1 0, 188, .inl a)), (q 4, .inl (E.2.1 0, 3, .inl r))] (some (.int (a (68 + 15 * u + 14)))) [(q 0, .inr (12, oM q ab be fe fc mo bl ta tl tkn va)), (q 1, .inl (E.2.1 0, 188, .inl (undF a u))), (q 4, .inl (E.2.1 0, 3, .inl r))] := by
  refine fn_I (by decide) (Nat.le_of_ble_eq_true rfl) rfl ?_
  intro K hC hR
  show G K E 3 [(q 0, .inr (12, oM q ab be fe fc mo bl ta tl tkn va)), (q 1, .inl (E.2.1 0, 188, .inl a)), (q 4, .inl (E.2.1 0, 3, .inl r))] [(0, .ref (q 0))] 0 []
  refine g_aload_n hC dX12_undo_0 rfl 0 rfl ?_
  refine g_get hC 0 12 0 inX12 m3_208 dX12_undo_1 rfl rfl (by decide) rfl ?_
  refine g_iconst (v := (nI 4)) hC dX12_undo_4 (by decide) ?_
  refine g_ialdN hC 1 dX12_undo_5 rfl (by decide) (by omega) ?_
  refine g_val (v' := .int (nI (u + 1))) (by rw [h4]) ?_
  refine g_if_neN (tgt := 14) hC dX12_undo_6 (by decide) (by omega) (fun h_6 => ?_) (fun h_6 => ?_)
  · refine g_aload_n hC dX12_undo_14 rfl 0 rfl ?_
    refine g_get hC 0 12 0 inX12 m3_208 dX12_undo_15 rfl rfl (by decide) rfl ?_
    refine g_iconst (v := (nI 4)) hC dX12_undo_18 (by decide) ?_
    refine g_dup2 hC dX12_undo_19 rfl rfl ?_
    refine g_ialdN hC 1 dX12_undo_20 rfl (by decide) (by omega) ?_
    refine g_val (v' := .int (nI (u + 1))) (by rw [h4]) ?_
    refine g_iconst (v := (nI 1)) hC dX12_undo_21 (by decide) ?_
    refine g_isubN hC dX12_undo_22 (by omega) ?_
    refine g_iastN hC 1 [(q 0, .inr (12, oM q ab be fe fc mo bl ta tl tkn va)), (q 1, .inl (E.2.1 0, 188, .inl (upd a 4 (nI ((u + 1) - 1))))), (q 4, .inl (E.2.1 0, 3, .inl r))] dX12_undo_23 rfl (by decide) (by omega) rfl ?_
    refine g_bipush (v := (nI 68)) hC dX12_undo_24 (by decide) ?_
    refine g_bipush (v := (nI 15)) hC dX12_undo_26 (by decide) ?_
    refine g_aload_n hC dX12_undo_28 rfl 0 rfl ?_
    refine g_get hC 0 12 0 inX12 m3_208 dX12_undo_29 rfl rfl (by decide) rfl ?_
    refine g_iconst (v := (nI 4)) hC dX12_undo_32 (by decide) ?_
    refine g_ialdN hC 1 dX12_undo_33 rfl (by decide) (by omega) ?_
    refine g_val (v' := .int (nI u)) (by rw [upd_s]; rfl) ?_
    refine g_imulN hC dX12_undo_34 ?_
    refine g_iaddN hC dX12_undo_35 ?_
    refine g_istore_n hC [(1, .int (nI (68 + (15 * u)))), (0, .ref (q 0))] dX12_undo_36 rfl (by decide) rfl ?_
    refine g_iconst (v := (nI 0)) hC dX12_undo_37 (by decide) ?_
    refine g_istore_n hC [(2, .int (nI 0)), (1, .int (nI (68 + (15 * u)))), (0, .ref (q 0))] dX12_undo_38 rfl (by decide) rfl ?_
    have L_39 : ∀ (fu : Nat) (k : Nat) (hk : k ≤ 14), 14 - k < fu → G K E 3 [(q 0, .inr (12, oM q ab be fe fc mo bl ta tl tkn va)), (q 1, .inl (E.2.1 0, 188, .inl (cpy (upd a 4 (nI u)) (68 + 15 * u) 5 k))), (q 4, .inl (E.2.1 0, 3, .inl r))] [(2, .int (nI k)), (1, .int (nI (68 + (15 * u)))), (0, .ref (q 0))] 39 [] := by
      intro fu
      induction fu with
      | zero => intro k hk hm_39; exact absurd hm_39 (Nat.not_lt_zero _)
      | succ fu ih_39 =>
        intro k hk hm_39
        refine g_iload_n hC dX12_undo_39 rfl 0 rfl ?_
        refine g_bipush (v := (nI 14)) hC dX12_undo_40 (by decide) ?_
        refine g_icmp_geN (tgt := 67) hC dX12_undo_42 (by decide) (by omega) (by omega) (fun h_42 => ?_) (fun h_42 => ?_)
        · refine g_aload_n hC dX12_undo_67 rfl 2 rfl ?_
          refine g_get hC 0 12 0 inX12 m3_208 dX12_undo_68 rfl rfl (by decide) rfl ?_
          refine g_iconst (v := (nI 1)) hC dX12_undo_71 (by decide) ?_
          refine g_aload_n hC dX12_undo_72 rfl 2 rfl ?_
          refine g_get hC 0 12 0 inX12 m3_208 dX12_undo_73 rfl rfl (by decide) rfl ?_
          refine g_iload_n hC dX12_undo_76 rfl 1 rfl ?_
          refine g_bipush (v := (nI 14)) hC dX12_undo_77 (by decide) ?_
          refine g_iaddN hC dX12_undo_79 ?_
          refine g_ialdN hC 1 dX12_undo_80 rfl (by decide) (by omega) ?_
          refine g_val (v' := .int (a (68 + 15 * u + 14))) (by rw [cpy_out (by omega), upd_n (by omega)]) ?_
          refine g_iastN hC 1 [(q 0, .inr (12, oM q ab be fe fc mo bl ta tl tkn va)), (q 1, .inl (E.2.1 0, 188, .inl (upd (cpy (upd a 4 (nI u)) (68 + 15 * u) 5 k) 1 (a (68 + 15 * u + 14))))), (q 4, .inl (E.2.1 0, 3, .inl r))] dX12_undo_81 rfl (by decide) (by omega) rfl ?_
          refine g_aload_n hC dX12_undo_82 rfl 2 rfl ?_
          refine g_get hC 0 12 0 inX12 m3_208 dX12_undo_83 rfl rfl (by decide) rfl ?_
          refine g_iconst (v := (nI 1)) hC dX12_undo_86 (by decide) ?_
          refine g_ialdN hC 1 dX12_undo_87 rfl (by decide) (by omega) ?_
          refine g_val (v' := .int (a (68 + 15 * u + 14))) (by rw [upd_s]) ?_
          exact g_val (rfl) (g_ws (by rw [undF, show k = 14 by omega]) (hR _ _ dX12_undo_88))
        · refine g_aload_n hC dX12_undo_45 rfl 2 rfl ?_
          refine g_get hC 0 12 0 inX12 m3_208 dX12_undo_46 rfl rfl (by decide) rfl ?_
          refine g_iconst (v := (nI 5)) hC dX12_undo_49 (by decide) ?_
          refine g_iload_n hC dX12_undo_50 rfl 0 rfl ?_
          refine g_iaddN hC dX12_undo_51 ?_
          refine g_aload_n hC dX12_undo_52 rfl 2 rfl ?_
          refine g_get hC 0 12 0 inX12 m3_208 dX12_undo_53 rfl rfl (by decide) rfl ?_
          refine g_iload_n hC dX12_undo_56 rfl 1 rfl ?_
          refine g_iload_n hC dX12_undo_57 rfl 0 rfl ?_
          refine g_iaddN hC dX12_undo_58 ?_
          refine g_ialdN hC 1 dX12_undo_59 rfl (by decide) (by omega) ?_
          refine g_val (v' := .int ((upd a 4 (nI u)) (68 + 15 * u + k))) (by rw [cpy_out (by omega)]) ?_
          refine g_iastN hC 1 [(q 0, .inr (12, oM q ab be fe fc mo bl ta tl tkn va)), (q 1, .inl (E.2.1 0, 188, .inl (upd (cpy (upd a 4 (nI u)) (68 + 15 * u) 5 k) (5 + k) ((upd a 4 (nI u)) (68 + 15 * u + k))))), (q 4, .inl (E.2.1 0, 3, .inl r))] dX12_undo_60 rfl (by decide) (by omega) rfl ?_
          refine g_iincN hC (q := 0) 1 [(2, .int (nI (k + 1))), (1, .int (nI (68 + (15 * u)))), (0, .ref (q 0))] dX12_undo_61 rfl rfl (by decide) rfl ?_
          refine g_goto (tgt := 39) hC dX12_undo_64 (by decide) ?_
          refine g_lv (lv' := [(2, .int (nI (k + 1))), (1, .int (nI (68 + (15 * u)))), (0, .ref (q 0))]) [0, 1, 2] rfl ?_
          refine g_ws (ws' := [(q 0, .inr (12, oM q ab be fe fc mo bl ta tl tkn va)), (q 1, .inl (E.2.1 0, 188, .inl (cpy (upd a 4 (nI u)) (68 + 15 * u) 5 (k + 1)))), (q 4, .inl (E.2.1 0, 3, .inl r))]) (by rw [cpy_s]) ?_
          exact ih_39 (k + 1) (by omega) (by omega)
    refine g_lv (lv' := [(2, .int (nI 0)), (1, .int (nI (68 + (15 * u)))), (0, .ref (q 0))]) [0, 1, 2] rfl ?_
    refine g_ws (ws' := [(q 0, .inr (12, oM q ab be fe fc mo bl ta tl tkn va)), (q 1, .inl (E.2.1 0, 188, .inl (cpy (upd a 4 (nI u)) (68 + 15 * u) 5 0))), (q 4, .inl (E.2.1 0, 3, .inl r))]) (by rw [cpy_0]; rfl) ?_
    exact L_39 ((14 - 0) + 1) 0 (by omega) (Nat.lt_succ_self _)
  · omega
set_option maxHeartbeats 4000000 in
set_option maxRecDepth 100000 in
theorem f_X12_of_ok (l : Launch) (E : Ew) (q : Nat → Nat) (ab : Int64) (be : Int64) (fe : Int32) (fc : Int32) (mo : Int32) (bl : Int32) (ta : Int32) (tl : Int32) (tkn : Int32) (va : Int32) (a : Nat → Int32) (r : Nat → Int32) (n : Nat) (x : Nat) (wh : Nat) (hn : a 0 = nI n) (hn7 : n ≤ 7) (hx : x < n) (hwh : wh < 3) : Fn l E 2 yX12_of cX12_of 3 (some .int) [.ref (q 0), .int (nI x), .int (nI wh)] [(q 0, .inr (12, oM q ab be fe fc mo bl ta tl tkn va)), (q 1, .inl (E.2.1 0, 188, .inl a)), (q 4, .inl (E.2.1 0, 3, .inl r))] (some (.int (a ((if wh = 0 then 19 else if wh = 1 then 12 else 5) + x)))) [(q 0, .inr (12, oM q ab be fe fc mo bl ta tl tkn va)), (q 1, .inl (E.2.1 0, 188, .inl a)), (q 4, .inl (E.2.1 0, 3, .inl r))] := by
  refine fn_I (by decide) (Nat.le_of_ble_eq_true rfl) rfl ?_
  intro K hC hR
  show G K E 3 [(q 0, .inr (12, oM q ab be fe fc mo bl ta tl tkn va)), (q 1, .inl (E.2.1 0, 188, .inl a)), (q 4, .inl (E.2.1 0, 3, .inl r))] [(0, .ref (q 0)), (1, .int (nI x)), (2, .int (nI wh))] 0 []
  refine g_aload_n hC dX12_of_0 rfl 0 rfl ?_
  refine g_iload_n hC dX12_of_1 rfl 1 rfl ?_
  refine g_callV hC (f_X12_isOne (kl K) E q ab be fe fc mo bl ta tl tkn va a n (nI x) (hn) (by omega)) wX12_isOne m4_62 dX12_of_2 [0, 1] [(q 0, .inr (12, oM q ab be fe fc mo bl ta tl tkn va)), (q 1, .inl (E.2.1 0, 188, .inl a)), (q 4, .inl (E.2.1 0, 3, .inl r))] 0 12 rfl rfl (by decide) rfl (Nat.le_of_ble_eq_true rfl) rfl rfl rfl rfl rfl ?_
  refine g_if_eqB (tgt := 20) hC dX12_of_5 (by decide) (fun h_5 => ?_) (fun h_5 => ?_)
  · exact Bool.noConfusion ((inB_ok (by omega) (by omega)).symm.trans h_5)
  · refine g_iload_n hC dX12_of_8 rfl 2 rfl ?_
    refine g_i2l hC dX12_of_9 ?_
    refine g_lconst (v := 0) hC dX12_of_10 (by decide) ?_
    refine g_ldc2 (v := 2) hC dX12_of_11 m4_119 ?_
    refine g_callS hC (f_X12_in (kl K) E ((nI wh).toInt64) 0 2) wX12_in m4_31 dX12_of_14 [] [(q 0, .inr (12, oM q ab be fe fc mo bl ta tl tkn va)), (q 1, .inl (E.2.1 0, 188, .inl a)), (q 4, .inl (E.2.1 0, 3, .inl r))] (by decide) rfl (Nat.le_of_ble_eq_true rfl) rfl rfl rfl rfl rfl ?_
    refine g_val (v' := .int (bI (inB (nI wh) 3))) (by rw [inlC (n := 3) (by decide)]) ?_
    refine g_if_neB (tgt := 27) hC dX12_of_17 (by decide) (fun h_17 => ?_) (fun h_17 => ?_)
    · refine g_aload_n hC dX12_of_27 rfl 0 rfl ?_
      refine g_get hC 0 12 0 inX12 m3_208 dX12_of_28 rfl rfl (by decide) rfl ?_
      refine g_iload_n hC dX12_of_31 rfl 2 rfl ?_
      refine g_if_neN (tgt := 40) hC dX12_of_32 (by decide) (by omega) (fun h_32 => ?_) (fun h_32 => ?_)
      · refine g_iload_n hC dX12_of_40 rfl 2 rfl ?_
        refine g_iconst (v := (nI 1)) hC dX12_of_41 (by decide) ?_
        refine g_icmp_neN (tgt := 50) hC dX12_of_42 (by decide) (by omega) (by omega) (fun h_42 => ?_) (fun h_42 => ?_)
        · refine g_iconst (v := (nI 5)) hC dX12_of_50 (by decide) ?_
          refine g_iload_n hC dX12_of_51 rfl 1 rfl ?_
          refine g_iaddN hC dX12_of_52 ?_
          refine g_ialdN hC 1 dX12_of_53 rfl (by decide) (by omega) ?_
          exact g_val (by simp [h_5, h_17, h_32, h_42]) (g_ws (rfl) (hR _ _ dX12_of_54))
        · refine g_bipush (v := (nI 12)) hC dX12_of_45 (by decide) ?_
          refine g_goto (tgt := 51) hC dX12_of_47 (by decide) ?_
          refine g_iload_n hC dX12_of_51 rfl 1 rfl ?_
          refine g_iaddN hC dX12_of_52 ?_
          refine g_ialdN hC 1 dX12_of_53 rfl (by decide) (by omega) ?_
          exact g_val (by simp [h_5, h_17, h_32, h_42]) (g_ws (rfl) (hR _ _ dX12_of_54))
      · refine g_bipush (v := (nI 19)) hC dX12_of_35 (by decide) ?_
        refine g_goto (tgt := 51) hC dX12_of_37 (by decide) ?_
        refine g_iload_n hC dX12_of_51 rfl 1 rfl ?_
        refine g_iaddN hC dX12_of_52 ?_
        refine g_ialdN hC 1 dX12_of_53 rfl (by decide) (by omega) ?_
        exact g_val (by simp [h_5, h_17, h_32]) (g_ws (rfl) (hR _ _ dX12_of_54))
    · exact Bool.noConfusion ((inB_ok (by omega) (by omega)).symm.trans h_17)
set_option maxHeartbeats 4000000 in
set_option maxRecDepth 100000 in
theorem f_X12_of_bad (l : Launch) (E : Ew) (q : Nat → Nat) (ab : Int64) (be : Int64) (fe : Int32) (fc : Int32) (mo : Int32) (bl : Int32) (ta : Int32) (tl : Int32) (tkn : Int32) (va : Int32) (a : Nat → Int32) (r : Nat → Int32) (n : Nat) (x : Int32) (wh : Int32) (hn : a 0 = nI n) (hn7 : n ≤ 7) (hb : (inB x n && inB wh 3) = false) : Fn l E 2 yX12_of cX12_of 3 (some .int) [.ref (q 0), .int x, .int wh] [(q 0, .inr (12, oM q ab be fe fc mo bl ta tl tkn va)), (q 1, .inl (E.2.1 0, 188, .inl a)), (q 4, .inl (E.2.1 0, 3, .inl r))] (some (.int (-10))) [(q 0, .inr (12, oM q ab be fe fc mo bl ta tl tkn va)), (q 1, .inl (E.2.1 0, 188, .inl a)), (q 4, .inl (E.2.1 0, 3, .inl (upd r 0 (r 0 + nI 1))))] := by
  refine fn_I (by decide) (Nat.le_of_ble_eq_true rfl) rfl ?_
  intro K hC hR
  show G K E 3 [(q 0, .inr (12, oM q ab be fe fc mo bl ta tl tkn va)), (q 1, .inl (E.2.1 0, 188, .inl a)), (q 4, .inl (E.2.1 0, 3, .inl r))] [(0, .ref (q 0)), (1, .int x), (2, .int wh)] 0 []
  refine g_aload_n hC dX12_of_0 rfl 0 rfl ?_
  refine g_iload_n hC dX12_of_1 rfl 1 rfl ?_
  refine g_callV hC (f_X12_isOne (kl K) E q ab be fe fc mo bl ta tl tkn va a n x (hn) (by omega)) wX12_isOne m4_62 dX12_of_2 [0, 1] [(q 0, .inr (12, oM q ab be fe fc mo bl ta tl tkn va)), (q 1, .inl (E.2.1 0, 188, .inl a)), (q 4, .inl (E.2.1 0, 3, .inl r))] 0 12 rfl rfl (by decide) rfl (Nat.le_of_ble_eq_true rfl) rfl rfl rfl rfl rfl ?_
  refine g_if_eqB (tgt := 20) hC dX12_of_5 (by decide) (fun h_5 => ?_) (fun h_5 => ?_)
  · refine g_aload_n hC dX12_of_20 rfl 0 rfl ?_
    refine g_bipush (v := (-10)) hC dX12_of_21 (by decide) ?_
    refine g_callV hC (f_X12_bad (kl K) E q ab be fe fc mo bl ta tl tkn va r (-10)) wX12_bad m4_34 dX12_of_23 [0, 2] [(q 0, .inr (12, oM q ab be fe fc mo bl ta tl tkn va)), (q 1, .inl (E.2.1 0, 188, .inl a)), (q 4, .inl (E.2.1 0, 3, .inl (upd r 0 (r 0 + nI 1))))] 0 12 rfl rfl (by decide) rfl (Nat.le_of_ble_eq_true rfl) rfl rfl rfl rfl rfl ?_
    exact g_val (rfl) (g_ws (rfl) (hR _ _ dX12_of_26))
  · refine g_iload_n hC dX12_of_8 rfl 2 rfl ?_
    refine g_i2l hC dX12_of_9 ?_
    refine g_lconst (v := 0) hC dX12_of_10 (by decide) ?_
    refine g_ldc2 (v := 2) hC dX12_of_11 m4_119 ?_
    refine g_callS hC (f_X12_in (kl K) E wh.toInt64 0 2) wX12_in m4_31 dX12_of_14 [] [(q 0, .inr (12, oM q ab be fe fc mo bl ta tl tkn va)), (q 1, .inl (E.2.1 0, 188, .inl a)), (q 4, .inl (E.2.1 0, 3, .inl r))] (by decide) rfl (Nat.le_of_ble_eq_true rfl) rfl rfl rfl rfl rfl ?_
    refine g_val (v' := .int (bI (inB wh 3))) (by rw [inlC (n := 3) (by decide)]) ?_
    refine g_if_neB (tgt := 27) hC dX12_of_17 (by decide) (fun h_17 => ?_) (fun h_17 => ?_)
    · exact absurd hb (by simp [h_5, h_17])
    · refine g_aload_n hC dX12_of_20 rfl 0 rfl ?_
      refine g_bipush (v := (-10)) hC dX12_of_21 (by decide) ?_
      refine g_callV hC (f_X12_bad (kl K) E q ab be fe fc mo bl ta tl tkn va r (-10)) wX12_bad m4_34 dX12_of_23 [0, 2] [(q 0, .inr (12, oM q ab be fe fc mo bl ta tl tkn va)), (q 1, .inl (E.2.1 0, 188, .inl a)), (q 4, .inl (E.2.1 0, 3, .inl (upd r 0 (r 0 + nI 1))))] 0 12 rfl rfl (by decide) rfl (Nat.le_of_ble_eq_true rfl) rfl rfl rfl rfl rfl ?_
      exact g_val (rfl) (g_ws (rfl) (hR _ _ dX12_of_26))
set_option maxHeartbeats 4000000 in
set_option maxRecDepth 100000 in
theorem f_X12_turn_ok (l : Launch) (E : Ew) (q : Nat → Nat) (ab : Int64) (be : Int64) (fe : Int32) (fc : Int32) (mo : Int32) (bl : Int32) (ta : Int32) (tl : Int32) (tkn : Int32) (va : Int32) (a : Nat → Int32) (r : Nat → Int32) (g : Nat → Int32) (n : Nat) (x : Nat) (pl : Nat) (hn : a 0 = nI n) (hn7 : n ≤ 7) (hpk : ∀ p, p < n → isN (a (12 + p)) 10 ∧ isN (a (19 + p)) 6) (hx : x < n) (hpl : pl < 10) : Fn l E 3 yX12_turn cX12_turn 3 (some .int) [.ref (q 0), .int (nI x), .int (nI pl)] [(q 0, .inr (12, oM q ab be fe fc mo bl ta tl tkn va)), (q 1, .inl (E.2.1 0, 188, .inl a)), (q 4, .inl (E.2.1 0, 3, .inl r)), (q 5, .inl (E.2.1 0, 7, .inl g))] (some (.int (nI (TS a (nI x) pl n)))) [(q 0, .inr (12, oM q ab be fe fc mo bl ta tl tkn va)), (q 1, .inl (E.2.1 0, 188, .inl a)), (q 4, .inl (E.2.1 0, 3, .inl r)), (q 5, .inl (E.2.1 0, 7, .inl (hnd a g n)))] := by
  refine fn_I (by decide) (Nat.le_of_ble_eq_true rfl) rfl ?_
  intro K hC hR
  show G K E 3 [(q 0, .inr (12, oM q ab be fe fc mo bl ta tl tkn va)), (q 1, .inl (E.2.1 0, 188, .inl a)), (q 4, .inl (E.2.1 0, 3, .inl r)), (q 5, .inl (E.2.1 0, 7, .inl g))] [(0, .ref (q 0)), (1, .int (nI x)), (2, .int (nI pl))] 0 []
  refine g_aload_n hC dX12_turn_0 rfl 0 rfl ?_
  refine g_iload_n hC dX12_turn_1 rfl 1 rfl ?_
  refine g_callV hC (f_X12_isOne (kl K) E q ab be fe fc mo bl ta tl tkn va a n (nI x) (hn) (by omega)) wX12_isOne m4_62 dX12_turn_2 [0, 1] [(q 0, .inr (12, oM q ab be fe fc mo bl ta tl tkn va)), (q 1, .inl (E.2.1 0, 188, .inl a)), (q 4, .inl (E.2.1 0, 3, .inl r)), (q 5, .inl (E.2.1 0, 7, .inl g))] 0 12 rfl rfl (by decide) rfl (Nat.le_of_ble_eq_true rfl) rfl rfl rfl rfl rfl ?_
  refine g_if_eqB (tgt := 15) hC dX12_turn_5 (by decide) (fun h_5 => ?_) (fun h_5 => ?_)
  · exact Bool.noConfusion ((inB_ok (by omega) (by omega)).symm.trans h_5)
  · refine g_iload_n hC dX12_turn_8 rfl 2 rfl ?_
    refine g_callS hC (f_X12_isPlace (kl K) E (nI pl)) wX12_isPlace m4_47 dX12_turn_9 [] [(q 0, .inr (12, oM q ab be fe fc mo bl ta tl tkn va)), (q 1, .inl (E.2.1 0, 188, .inl a)), (q 4, .inl (E.2.1 0, 3, .inl r)), (q 5, .inl (E.2.1 0, 7, .inl g))] (by decide) rfl (Nat.le_of_ble_eq_true rfl) rfl rfl rfl rfl rfl ?_
    refine g_if_neB (tgt := 22) hC dX12_turn_12 (by decide) (fun h_12 => ?_) (fun h_12 => ?_)
    · refine g_aload_n hC dX12_turn_22 rfl 0 rfl ?_
      refine g_callV hC (f_X12_layHand (kl K) E q ab be fe fc mo bl ta tl tkn va a g n (hn) (hn7)) wX12_layHand m4_70 dX12_turn_23 [0, 1, 3] [(q 0, .inr (12, oM q ab be fe fc mo bl ta tl tkn va)), (q 1, .inl (E.2.1 0, 188, .inl a)), (q 4, .inl (E.2.1 0, 3, .inl r)), (q 5, .inl (E.2.1 0, 7, .inl (hnd a g n)))] 0 12 rfl rfl (by decide) rfl (Nat.le_of_ble_eq_true rfl) rfl rfl rfl rfl rfl ?_
      refine g_aload_n hC dX12_turn_26 rfl 0 rfl ?_
      refine g_iload_n hC dX12_turn_27 rfl 1 rfl ?_
      refine g_iload_n hC dX12_turn_28 rfl 2 rfl ?_
      refine g_callV hC (f_X12_turning (kl K) E q ab be fe fc mo bl ta tl tkn va a (hnd a g n) n (nI x) pl (hn) (hn7) (hpk) (by omega)) wX12_turning m4_78 dX12_turn_29 [0, 1, 3] [(q 0, .inr (12, oM q ab be fe fc mo bl ta tl tkn va)), (q 1, .inl (E.2.1 0, 188, .inl a)), (q 4, .inl (E.2.1 0, 3, .inl r)), (q 5, .inl (E.2.1 0, 7, .inl (hnd a g n)))] 0 12 rfl rfl (by decide) rfl (Nat.le_of_ble_eq_true rfl) rfl rfl rfl rfl rfl ?_
      exact g_val (by rw [TS, tS_cong (g := N5 a) (g' := hnd a g n) (fun p hp => ⟨rfl, rfl⟩) rfl (fun p hp => (by rw [hnd_in hp]; rfl))]) (g_ws (rfl) (hR _ _ dX12_turn_32))
    · exact Bool.noConfusion ((inB_ok (by omega) (by omega)).symm.trans h_12)
set_option maxHeartbeats 4000000 in
set_option maxRecDepth 100000 in
theorem f_X12_bearers_ok (l : Launch) (E : Ew) (q : Nat → Nat) (ab : Int64) (be : Int64) (fe : Int32) (fc : Int32) (mo : Int32) (bl : Int32) (ta : Int32) (tl : Int32) (tkn : Int32) (va : Int32) (a : Nat → Int32) (r : Nat → Int32) (g : Nat → Int32) (n : Nat) (x : Nat) (hn : a 0 = nI n) (hn7 : n ≤ 7) (hx : x < n) : Fn l E 2 yX12_bearers cX12_bearers 2 (some .int) [.ref (q 0), .int (nI x)] [(q 0, .inr (12, oM q ab be fe fc mo bl ta tl tkn va)), (q 1, .inl (E.2.1 0, 188, .inl a)), (q 4, .inl (E.2.1 0, 3, .inl r)), (q 5, .inl (E.2.1 0, 7, .inl g))] (some (.int (nI (BO a (nI x) n)))) [(q 0, .inr (12, oM q ab be fe fc mo bl ta tl tkn va)), (q 1, .inl (E.2.1 0, 188, .inl a)), (q 4, .inl (E.2.1 0, 3, .inl r)), (q 5, .inl (E.2.1 0, 7, .inl (hnd a g n)))] := by
  refine fn_I (by decide) (Nat.le_of_ble_eq_true rfl) rfl ?_
  intro K hC hR
  show G K E 2 [(q 0, .inr (12, oM q ab be fe fc mo bl ta tl tkn va)), (q 1, .inl (E.2.1 0, 188, .inl a)), (q 4, .inl (E.2.1 0, 3, .inl r)), (q 5, .inl (E.2.1 0, 7, .inl g))] [(0, .ref (q 0)), (1, .int (nI x))] 0 []
  refine g_aload_n hC dX12_bearers_0 rfl 0 rfl ?_
  refine g_iload_n hC dX12_bearers_1 rfl 1 rfl ?_
  refine g_callV hC (f_X12_isOne (kl K) E q ab be fe fc mo bl ta tl tkn va a n (nI x) (hn) (by omega)) wX12_isOne m4_62 dX12_bearers_2 [0, 1] [(q 0, .inr (12, oM q ab be fe fc mo bl ta tl tkn va)), (q 1, .inl (E.2.1 0, 188, .inl a)), (q 4, .inl (E.2.1 0, 3, .inl r)), (q 5, .inl (E.2.1 0, 7, .inl g))] 0 12 rfl rfl (by decide) rfl (Nat.le_of_ble_eq_true rfl) rfl rfl rfl rfl rfl ?_
  refine g_if_neB (tgt := 15) hC dX12_bearers_5 (by decide) (fun h_5 => ?_) (fun h_5 => ?_)
  · refine g_aload_n hC dX12_bearers_15 rfl 0 rfl ?_
    refine g_callV hC (f_X12_layHand (kl K) E q ab be fe fc mo bl ta tl tkn va a g n (hn) (hn7)) wX12_layHand m4_70 dX12_bearers_16 [0, 1, 3] [(q 0, .inr (12, oM q ab be fe fc mo bl ta tl tkn va)), (q 1, .inl (E.2.1 0, 188, .inl a)), (q 4, .inl (E.2.1 0, 3, .inl r)), (q 5, .inl (E.2.1 0, 7, .inl (hnd a g n)))] 0 12 rfl rfl (by decide) rfl (Nat.le_of_ble_eq_true rfl) rfl rfl rfl rfl rfl ?_
    refine g_aload_n hC dX12_bearers_19 rfl 0 rfl ?_
    refine g_iload_n hC dX12_bearers_20 rfl 1 rfl ?_
    refine g_callV hC (f_X12_bearersOf (kl K) E q ab be fe fc mo bl ta tl tkn va a (hnd a g n) n (nI x) (hn) (hn7)) wX12_bearersOf m4_82 dX12_bearers_21 [0, 1, 3] [(q 0, .inr (12, oM q ab be fe fc mo bl ta tl tkn va)), (q 1, .inl (E.2.1 0, 188, .inl a)), (q 4, .inl (E.2.1 0, 3, .inl r)), (q 5, .inl (E.2.1 0, 7, .inl (hnd a g n)))] 0 12 rfl rfl (by decide) rfl (Nat.le_of_ble_eq_true rfl) rfl rfl rfl rfl rfl ?_
    exact g_val (by rw [BO, bo_cong (g := N5 a) (g' := hnd a g n) (fun p hp => (by rw [hnd_in hp]; rfl))]) (g_ws (rfl) (hR _ _ dX12_bearers_24))
  · exact Bool.noConfusion ((inB_ok (by omega) (by omega)).symm.trans h_5)
set_option maxHeartbeats 4000000 in
set_option maxRecDepth 100000 in
theorem f_X12_bearers_bad (l : Launch) (E : Ew) (q : Nat → Nat) (ab : Int64) (be : Int64) (fe : Int32) (fc : Int32) (mo : Int32) (bl : Int32) (ta : Int32) (tl : Int32) (tkn : Int32) (va : Int32) (a : Nat → Int32) (r : Nat → Int32) (n : Nat) (x : Int32) (hn : a 0 = nI n) (hn7 : n ≤ 7) (hb : inB x n = false) : Fn l E 2 yX12_bearers cX12_bearers 2 (some .int) [.ref (q 0), .int x] [(q 0, .inr (12, oM q ab be fe fc mo bl ta tl tkn va)), (q 1, .inl (E.2.1 0, 188, .inl a)), (q 4, .inl (E.2.1 0, 3, .inl r))] (some (.int (-2))) [(q 0, .inr (12, oM q ab be fe fc mo bl ta tl tkn va)), (q 1, .inl (E.2.1 0, 188, .inl a)), (q 4, .inl (E.2.1 0, 3, .inl (upd r 0 (r 0 + nI 1))))] := by
  refine fn_I (by decide) (Nat.le_of_ble_eq_true rfl) rfl ?_
  intro K hC hR
  show G K E 2 [(q 0, .inr (12, oM q ab be fe fc mo bl ta tl tkn va)), (q 1, .inl (E.2.1 0, 188, .inl a)), (q 4, .inl (E.2.1 0, 3, .inl r))] [(0, .ref (q 0)), (1, .int x)] 0 []
  refine g_aload_n hC dX12_bearers_0 rfl 0 rfl ?_
  refine g_iload_n hC dX12_bearers_1 rfl 1 rfl ?_
  refine g_callV hC (f_X12_isOne (kl K) E q ab be fe fc mo bl ta tl tkn va a n x (hn) (by omega)) wX12_isOne m4_62 dX12_bearers_2 [0, 1] [(q 0, .inr (12, oM q ab be fe fc mo bl ta tl tkn va)), (q 1, .inl (E.2.1 0, 188, .inl a)), (q 4, .inl (E.2.1 0, 3, .inl r))] 0 12 rfl rfl (by decide) rfl (Nat.le_of_ble_eq_true rfl) rfl rfl rfl rfl rfl ?_
  refine g_if_neB (tgt := 15) hC dX12_bearers_5 (by decide) (fun h_5 => ?_) (fun h_5 => ?_)
  · exact absurd h_5 (by rw [hb]; decide)
  · refine g_aload_n hC dX12_bearers_8 rfl 0 rfl ?_
    refine g_bipush (v := (-2)) hC dX12_bearers_9 (by decide) ?_
    refine g_callV hC (f_X12_bad (kl K) E q ab be fe fc mo bl ta tl tkn va r (-2)) wX12_bad m4_34 dX12_bearers_11 [0, 2] [(q 0, .inr (12, oM q ab be fe fc mo bl ta tl tkn va)), (q 1, .inl (E.2.1 0, 188, .inl a)), (q 4, .inl (E.2.1 0, 3, .inl (upd r 0 (r 0 + nI 1))))] 0 12 rfl rfl (by decide) rfl (Nat.le_of_ble_eq_true rfl) rfl rfl rfl rfl rfl ?_
    exact g_val (rfl) (g_ws (rfl) (hR _ _ dX12_bearers_14))
set_option maxHeartbeats 4000000 in
set_option maxRecDepth 100000 in
theorem f_X12_names_ok (l : Launch) (E : Ew) (q : Nat → Nat) (ab : Int64) (be : Int64) (fe : Int32) (fc : Int32) (mo : Int32) (bl : Int32) (ta : Int32) (tl : Int32) (tkn : Int32) (va : Int32) (a : Nat → Int32) (r : Nat → Int32) (g : Nat → Int32) (n : Nat) (wh : Nat) (hn : a 0 = nI n) (hn7 : n ≤ 7) (hwh : wh < 2) : Fn l E 2 yX12_names cX12_names 5 (some .int) [.ref (q 0), .int (nI wh)] [(q 0, .inr (12, oM q ab be fe fc mo bl ta tl tkn va)), (q 1, .inl (E.2.1 0, 188, .inl a)), (q 4, .inl (E.2.1 0, 3, .inl r)), (q 5, .inl (E.2.1 0, 7, .inl g))] (some (.int (nI (bs (nmB a wh n) n)))) [(q 0, .inr (12, oM q ab be fe fc mo bl ta tl tkn va)), (q 1, .inl (E.2.1 0, 188, .inl a)), (q 4, .inl (E.2.1 0, 3, .inl r)), (q 5, .inl (E.2.1 0, 7, .inl (hnd a g n)))] := by
  refine fn_I (by decide) (Nat.le_of_ble_eq_true rfl) rfl ?_
  intro K hC hR
  show G K E 5 [(q 0, .inr (12, oM q ab be fe fc mo bl ta tl tkn va)), (q 1, .inl (E.2.1 0, 188, .inl a)), (q 4, .inl (E.2.1 0, 3, .inl r)), (q 5, .inl (E.2.1 0, 7, .inl g))] [(0, .ref (q 0)), (1, .int (nI wh))] 0 []
  refine g_iload_n hC dX12_names_0 rfl 1 rfl ?_
  refine g_i2l hC dX12_names_1 ?_
  refine g_lconst (v := 0) hC dX12_names_2 (by decide) ?_
  refine g_lconst (v := 1) hC dX12_names_3 (by decide) ?_
  refine g_callS hC (f_X12_in (kl K) E ((nI wh).toInt64) 0 1) wX12_in m4_31 dX12_names_4 [] [(q 0, .inr (12, oM q ab be fe fc mo bl ta tl tkn va)), (q 1, .inl (E.2.1 0, 188, .inl a)), (q 4, .inl (E.2.1 0, 3, .inl r)), (q 5, .inl (E.2.1 0, 7, .inl g))] (by decide) rfl (Nat.le_of_ble_eq_true rfl) rfl rfl rfl rfl rfl ?_
  refine g_val (v' := .int (bI (inB (nI wh) 2))) (by rw [inlC (n := 2) (by decide)]) ?_
  refine g_if_neB (tgt := 17) hC dX12_names_7 (by decide) (fun h_7 => ?_) (fun h_7 => ?_)
  · refine g_iconst (v := (nI 0)) hC dX12_names_17 (by decide) ?_
    refine g_istore_n hC [(2, .int (nI 0)), (0, .ref (q 0)), (1, .int (nI wh))] dX12_names_18 rfl (by decide) rfl ?_
    refine g_aload_n hC dX12_names_19 rfl 1 rfl ?_
    refine g_callV hC (f_X12_layHand (kl K) E q ab be fe fc mo bl ta tl tkn va a g n (hn) (hn7)) wX12_layHand m4_70 dX12_names_20 [0, 1, 3] [(q 0, .inr (12, oM q ab be fe fc mo bl ta tl tkn va)), (q 1, .inl (E.2.1 0, 188, .inl a)), (q 4, .inl (E.2.1 0, 3, .inl r)), (q 5, .inl (E.2.1 0, 7, .inl (hnd a g n)))] 0 12 rfl rfl (by decide) rfl (Nat.le_of_ble_eq_true rfl) rfl rfl rfl rfl rfl ?_
    refine g_iconst (v := (nI 0)) hC dX12_names_23 (by decide) ?_
    refine g_istore_n hC [(3, .int (nI 0)), (2, .int (nI 0)), (0, .ref (q 0)), (1, .int (nI wh))] dX12_names_24 rfl (by decide) rfl ?_
    have L_25 : ∀ (fu : Nat) (k : Nat) (hk : k ≤ n), n - k < fu → G K E 5 [(q 0, .inr (12, oM q ab be fe fc mo bl ta tl tkn va)), (q 1, .inl (E.2.1 0, 188, .inl a)), (q 4, .inl (E.2.1 0, 3, .inl r)), (q 5, .inl (E.2.1 0, 7, .inl (hnd a g n)))] [(3, .int (nI k)), (2, .int (nI (bs (nmB a wh n) k))), (0, .ref (q 0)), (1, .int (nI wh))] 25 [] := by
      intro fu
      induction fu with
      | zero => intro k hk hm_25; exact absurd hm_25 (Nat.not_lt_zero _)
      | succ fu ih_25 =>
        intro k hk hm_25
        have hbo : bo (hnd a g n) (nI k) n = BO a (nI k) n := bo_cong (fun p hp => (by rw [hnd_in hp]; rfl))
        have hct : ct (bo (hnd a g n) (nI k) n).testBit 31 ≤ 31 := ct_le _ _
        refine g_iload_n hC dX12_names_25 rfl 0 rfl ?_
        refine g_aload_n hC dX12_names_26 rfl 2 rfl ?_
        refine g_callV hC (f_X12_many (kl K) E q ab be fe fc mo bl ta tl tkn va a) wX12_many m4_38 dX12_names_27 [0, 1] [(q 0, .inr (12, oM q ab be fe fc mo bl ta tl tkn va)), (q 1, .inl (E.2.1 0, 188, .inl a)), (q 4, .inl (E.2.1 0, 3, .inl r)), (q 5, .inl (E.2.1 0, 7, .inl (hnd a g n)))] 0 12 rfl rfl (by decide) rfl (Nat.le_of_ble_eq_true rfl) rfl rfl rfl rfl rfl ?_
        refine g_val (v' := .int (nI n)) (by rw [hn]) ?_
        refine g_icmp_geN (tgt := 79) hC dX12_names_30 (by decide) (by omega) (by omega) (fun h_30 => ?_) (fun h_30 => ?_)
        · refine g_iload_n hC dX12_names_79 rfl 1 rfl ?_
          exact g_val (by rw [show k = n by omega]) (g_ws (rfl) (hR _ _ dX12_names_80))
        · refine g_aload_n hC dX12_names_33 rfl 2 rfl ?_
          refine g_iload_n hC dX12_names_34 rfl 0 rfl ?_
          refine g_callV hC (f_X12_bearersOf (kl K) E q ab be fe fc mo bl ta tl tkn va a (hnd a g n) n (nI k) (hn) (hn7)) wX12_bearersOf m4_82 dX12_names_35 [0, 1, 3] [(q 0, .inr (12, oM q ab be fe fc mo bl ta tl tkn va)), (q 1, .inl (E.2.1 0, 188, .inl a)), (q 4, .inl (E.2.1 0, 3, .inl r)), (q 5, .inl (E.2.1 0, 7, .inl (hnd a g n)))] 0 12 rfl rfl (by decide) rfl (Nat.le_of_ble_eq_true rfl) rfl rfl rfl rfl rfl ?_
          refine g_callS hC (f_X12_bits (kl K) E (bo (hnd a g n) (nI k) n) (bs_lt' _ (m := 31) (by omega))) wX12_bits m4_132 dX12_names_38 [] [(q 0, .inr (12, oM q ab be fe fc mo bl ta tl tkn va)), (q 1, .inl (E.2.1 0, 188, .inl a)), (q 4, .inl (E.2.1 0, 3, .inl r)), (q 5, .inl (E.2.1 0, 7, .inl (hnd a g n)))] (by decide) rfl (Nat.le_of_ble_eq_true rfl) rfl rfl rfl rfl rfl ?_
          refine g_istore hC [(4, .int (nI (ct (bo (hnd a g n) (nI k) n).testBit 31))), (3, .int (nI k)), (2, .int (nI (bs (nmB a wh n) k))), (0, .ref (q 0)), (1, .int (nI wh))] dX12_names_41 (by decide) rfl ?_
          refine g_iload_n hC dX12_names_43 rfl 2 rfl ?_
          refine g_iload_n hC dX12_names_44 rfl 4 rfl ?_
          refine g_if_neN (tgt := 53) hC dX12_names_45 (by decide) (by omega) (fun h_45 => ?_) (fun h_45 => ?_)
          · refine g_iload_n hC dX12_names_53 rfl 4 rfl ?_
            refine g_iconst (v := (nI 1)) hC dX12_names_54 (by decide) ?_
            refine g_icmp_neN (tgt := 70) hC dX12_names_55 (by decide) (by omega) (by omega) (fun h_55 => ?_) (fun h_55 => ?_)
            · refine g_iconst (v := (nI 0)) hC dX12_names_70 (by decide) ?_
              refine g_ior hC dX12_names_71 ?_
              refine g_val (v' := .int (nI (bs (nmB a wh n) (k + 1)))) (by rw [bs_no (by first | (exfalso; omega) | simp [nmB, ← hbo, h_7, h_30, h_45, h_55])]) ?_
              refine g_istore_n hC [(2, .int (nI (bs (nmB a wh n) (k + 1)))), (4, .int (nI (ct (bo (hnd a g n) (nI k) n).testBit 31))), (3, .int (nI k)), (0, .ref (q 0)), (1, .int (nI wh))] dX12_names_72 rfl (by decide) rfl ?_
              refine g_iincN hC (q := 2) 1 [(3, .int (nI (k + 1))), (2, .int (nI (bs (nmB a wh n) (k + 1)))), (4, .int (nI (ct (bo (hnd a g n) (nI k) n).testBit 31))), (0, .ref (q 0)), (1, .int (nI wh))] dX12_names_73 rfl rfl (by decide) rfl ?_
              refine g_goto (tgt := 25) hC dX12_names_76 (by decide) ?_
              refine g_lv (lv' := [(3, .int (nI (k + 1))), (2, .int (nI (bs (nmB a wh n) (k + 1)))), (0, .ref (q 0)), (1, .int (nI wh))]) [0, 1, 3, 4] rfl ?_
              exact ih_25 (k + 1) (by omega) (by omega)
            · refine g_iload hC dX12_names_58 0 rfl ?_
              refine g_iconst (v := (nI 1)) hC dX12_names_60 (by decide) ?_
              refine g_icmp_leN (tgt := 70) hC dX12_names_61 (by decide) (by omega) (by omega) (fun h_61 => ?_) (fun h_61 => ?_)
              · refine g_iconst (v := (nI 0)) hC dX12_names_70 (by decide) ?_
                refine g_ior hC dX12_names_71 ?_
                refine g_val (v' := .int (nI (bs (nmB a wh n) (k + 1)))) (by rw [bs_no (by first | (exfalso; omega) | simp [nmB, ← hbo, h_7, h_30, h_45, h_55, h_61])]) ?_
                refine g_istore_n hC [(2, .int (nI (bs (nmB a wh n) (k + 1)))), (4, .int (nI (ct (bo (hnd a g n) (nI k) n).testBit 31))), (3, .int (nI k)), (0, .ref (q 0)), (1, .int (nI wh))] dX12_names_72 rfl (by decide) rfl ?_
                refine g_iincN hC (q := 2) 1 [(3, .int (nI (k + 1))), (2, .int (nI (bs (nmB a wh n) (k + 1)))), (4, .int (nI (ct (bo (hnd a g n) (nI k) n).testBit 31))), (0, .ref (q 0)), (1, .int (nI wh))] dX12_names_73 rfl rfl (by decide) rfl ?_
                refine g_goto (tgt := 25) hC dX12_names_76 (by decide) ?_
                refine g_lv (lv' := [(3, .int (nI (k + 1))), (2, .int (nI (bs (nmB a wh n) (k + 1)))), (0, .ref (q 0)), (1, .int (nI wh))]) [0, 1, 3, 4] rfl ?_
                exact ih_25 (k + 1) (by omega) (by omega)
              · refine g_iconst (v := (nI 1)) hC dX12_names_64 (by decide) ?_
                refine g_iload_n hC dX12_names_65 rfl 1 rfl ?_
                refine g_ishl hC dX12_names_66 ?_
                refine g_goto (tgt := 71) hC dX12_names_67 (by decide) ?_
                refine g_ior hC dX12_names_71 ?_
                refine g_val (v' := .int (nI (bs (nmB a wh n) (k + 1)))) (by rw [bs_yes (by omega) (by first | (exfalso; omega) | simp [nmB, ← hbo, h_7, h_30, h_45, h_55, h_61])]) ?_
                refine g_istore_n hC [(2, .int (nI (bs (nmB a wh n) (k + 1)))), (4, .int (nI (ct (bo (hnd a g n) (nI k) n).testBit 31))), (3, .int (nI k)), (0, .ref (q 0)), (1, .int (nI wh))] dX12_names_72 rfl (by decide) rfl ?_
                refine g_iincN hC (q := 2) 1 [(3, .int (nI (k + 1))), (2, .int (nI (bs (nmB a wh n) (k + 1)))), (4, .int (nI (ct (bo (hnd a g n) (nI k) n).testBit 31))), (0, .ref (q 0)), (1, .int (nI wh))] dX12_names_73 rfl rfl (by decide) rfl ?_
                refine g_goto (tgt := 25) hC dX12_names_76 (by decide) ?_
                refine g_lv (lv' := [(3, .int (nI (k + 1))), (2, .int (nI (bs (nmB a wh n) (k + 1)))), (0, .ref (q 0)), (1, .int (nI wh))]) [0, 1, 3, 4] rfl ?_
                exact ih_25 (k + 1) (by omega) (by omega)
          · refine g_iload hC dX12_names_48 0 rfl ?_
            refine g_if_eqN (tgt := 64) hC dX12_names_50 (by decide) (by omega) (fun h_50 => ?_) (fun h_50 => ?_)
            · refine g_iconst (v := (nI 1)) hC dX12_names_64 (by decide) ?_
              refine g_iload_n hC dX12_names_65 rfl 1 rfl ?_
              refine g_ishl hC dX12_names_66 ?_
              refine g_goto (tgt := 71) hC dX12_names_67 (by decide) ?_
              refine g_ior hC dX12_names_71 ?_
              refine g_val (v' := .int (nI (bs (nmB a wh n) (k + 1)))) (by rw [bs_yes (by omega) (by first | (exfalso; omega) | simp [nmB, ← hbo, h_7, h_30, h_45, h_50])]) ?_
              refine g_istore_n hC [(2, .int (nI (bs (nmB a wh n) (k + 1)))), (4, .int (nI (ct (bo (hnd a g n) (nI k) n).testBit 31))), (3, .int (nI k)), (0, .ref (q 0)), (1, .int (nI wh))] dX12_names_72 rfl (by decide) rfl ?_
              refine g_iincN hC (q := 2) 1 [(3, .int (nI (k + 1))), (2, .int (nI (bs (nmB a wh n) (k + 1)))), (4, .int (nI (ct (bo (hnd a g n) (nI k) n).testBit 31))), (0, .ref (q 0)), (1, .int (nI wh))] dX12_names_73 rfl rfl (by decide) rfl ?_
              refine g_goto (tgt := 25) hC dX12_names_76 (by decide) ?_
              refine g_lv (lv' := [(3, .int (nI (k + 1))), (2, .int (nI (bs (nmB a wh n) (k + 1)))), (0, .ref (q 0)), (1, .int (nI wh))]) [0, 1, 3, 4] rfl ?_
              exact ih_25 (k + 1) (by omega) (by omega)
            · refine g_iload_n hC dX12_names_53 rfl 4 rfl ?_
              refine g_iconst (v := (nI 1)) hC dX12_names_54 (by decide) ?_
              refine g_icmp_neN (tgt := 70) hC dX12_names_55 (by decide) (by omega) (by omega) (fun h_55 => ?_) (fun h_55 => ?_)
              · refine g_iconst (v := (nI 0)) hC dX12_names_70 (by decide) ?_
                refine g_ior hC dX12_names_71 ?_
                refine g_val (v' := .int (nI (bs (nmB a wh n) (k + 1)))) (by rw [bs_no (by first | (exfalso; omega) | simp [nmB, ← hbo, h_7, h_30, h_45, h_50, h_55])]) ?_
                refine g_istore_n hC [(2, .int (nI (bs (nmB a wh n) (k + 1)))), (4, .int (nI (ct (bo (hnd a g n) (nI k) n).testBit 31))), (3, .int (nI k)), (0, .ref (q 0)), (1, .int (nI wh))] dX12_names_72 rfl (by decide) rfl ?_
                refine g_iincN hC (q := 2) 1 [(3, .int (nI (k + 1))), (2, .int (nI (bs (nmB a wh n) (k + 1)))), (4, .int (nI (ct (bo (hnd a g n) (nI k) n).testBit 31))), (0, .ref (q 0)), (1, .int (nI wh))] dX12_names_73 rfl rfl (by decide) rfl ?_
                refine g_goto (tgt := 25) hC dX12_names_76 (by decide) ?_
                refine g_lv (lv' := [(3, .int (nI (k + 1))), (2, .int (nI (bs (nmB a wh n) (k + 1)))), (0, .ref (q 0)), (1, .int (nI wh))]) [0, 1, 3, 4] rfl ?_
                exact ih_25 (k + 1) (by omega) (by omega)
              · refine g_iload hC dX12_names_58 0 rfl ?_
                refine g_iconst (v := (nI 1)) hC dX12_names_60 (by decide) ?_
                refine g_icmp_leN (tgt := 70) hC dX12_names_61 (by decide) (by omega) (by omega) (fun h_61 => ?_) (fun h_61 => ?_)
                · refine g_iconst (v := (nI 0)) hC dX12_names_70 (by decide) ?_
                  refine g_ior hC dX12_names_71 ?_
                  refine g_val (v' := .int (nI (bs (nmB a wh n) (k + 1)))) (by rw [bs_no (by first | (exfalso; omega) | simp [nmB, ← hbo, h_7, h_30, h_45, h_50, h_55, h_61])]) ?_
                  refine g_istore_n hC [(2, .int (nI (bs (nmB a wh n) (k + 1)))), (4, .int (nI (ct (bo (hnd a g n) (nI k) n).testBit 31))), (3, .int (nI k)), (0, .ref (q 0)), (1, .int (nI wh))] dX12_names_72 rfl (by decide) rfl ?_
                  refine g_iincN hC (q := 2) 1 [(3, .int (nI (k + 1))), (2, .int (nI (bs (nmB a wh n) (k + 1)))), (4, .int (nI (ct (bo (hnd a g n) (nI k) n).testBit 31))), (0, .ref (q 0)), (1, .int (nI wh))] dX12_names_73 rfl rfl (by decide) rfl ?_
                  refine g_goto (tgt := 25) hC dX12_names_76 (by decide) ?_
                  refine g_lv (lv' := [(3, .int (nI (k + 1))), (2, .int (nI (bs (nmB a wh n) (k + 1)))), (0, .ref (q 0)), (1, .int (nI wh))]) [0, 1, 3, 4] rfl ?_
                  exact ih_25 (k + 1) (by omega) (by omega)
                · refine g_iconst (v := (nI 1)) hC dX12_names_64 (by decide) ?_
                  refine g_iload_n hC dX12_names_65 rfl 1 rfl ?_
                  refine g_ishl hC dX12_names_66 ?_
                  refine g_goto (tgt := 71) hC dX12_names_67 (by decide) ?_
                  refine g_ior hC dX12_names_71 ?_
                  refine g_val (v' := .int (nI (bs (nmB a wh n) (k + 1)))) (by rw [bs_yes (by omega) (by first | (exfalso; omega) | simp [nmB, ← hbo, h_7, h_30, h_45, h_50, h_55, h_61])]) ?_
                  refine g_istore_n hC [(2, .int (nI (bs (nmB a wh n) (k + 1)))), (4, .int (nI (ct (bo (hnd a g n) (nI k) n).testBit 31))), (3, .int (nI k)), (0, .ref (q 0)), (1, .int (nI wh))] dX12_names_72 rfl (by decide) rfl ?_
                  refine g_iincN hC (q := 2) 1 [(3, .int (nI (k + 1))), (2, .int (nI (bs (nmB a wh n) (k + 1)))), (4, .int (nI (ct (bo (hnd a g n) (nI k) n).testBit 31))), (0, .ref (q 0)), (1, .int (nI wh))] dX12_names_73 rfl rfl (by decide) rfl ?_
                  refine g_goto (tgt := 25) hC dX12_names_76 (by decide) ?_
                  refine g_lv (lv' := [(3, .int (nI (k + 1))), (2, .int (nI (bs (nmB a wh n) (k + 1)))), (0, .ref (q 0)), (1, .int (nI wh))]) [0, 1, 3, 4] rfl ?_
                  exact ih_25 (k + 1) (by omega) (by omega)
    refine g_lv (lv' := [(3, .int (nI 0)), (2, .int (nI 0)), (0, .ref (q 0)), (1, .int (nI wh))]) [0, 1, 2, 3] rfl ?_
    refine g_lve (lv' := [(3, .int (nI 0)), (2, .int (nI (bs (nmB a wh n) 0))), (0, .ref (q 0)), (1, .int (nI wh))]) (rfl) ?_
    exact L_25 ((n - 0) + 1) 0 (by omega) (Nat.lt_succ_self _)
  · exact Bool.noConfusion ((inB_ok (by omega) (by omega)).symm.trans h_7)
set_option maxHeartbeats 4000000 in
set_option maxRecDepth 100000 in
theorem f_X12_names_bad (l : Launch) (E : Ew) (q : Nat → Nat) (ab : Int64) (be : Int64) (fe : Int32) (fc : Int32) (mo : Int32) (bl : Int32) (ta : Int32) (tl : Int32) (tkn : Int32) (va : Int32) (a : Nat → Int32) (r : Nat → Int32) (wh : Int32) (hb : inB wh 2 = false) : Fn l E 1 yX12_names cX12_names 5 (some .int) [.ref (q 0), .int wh] [(q 0, .inr (12, oM q ab be fe fc mo bl ta tl tkn va)), (q 1, .inl (E.2.1 0, 188, .inl a)), (q 4, .inl (E.2.1 0, 3, .inl r))] (some (.int (-2))) [(q 0, .inr (12, oM q ab be fe fc mo bl ta tl tkn va)), (q 1, .inl (E.2.1 0, 188, .inl a)), (q 4, .inl (E.2.1 0, 3, .inl (upd r 0 (r 0 + nI 1))))] := by
  refine fn_I (by decide) (Nat.le_of_ble_eq_true rfl) rfl ?_
  intro K hC hR
  show G K E 5 [(q 0, .inr (12, oM q ab be fe fc mo bl ta tl tkn va)), (q 1, .inl (E.2.1 0, 188, .inl a)), (q 4, .inl (E.2.1 0, 3, .inl r))] [(0, .ref (q 0)), (1, .int wh)] 0 []
  refine g_iload_n hC dX12_names_0 rfl 1 rfl ?_
  refine g_i2l hC dX12_names_1 ?_
  refine g_lconst (v := 0) hC dX12_names_2 (by decide) ?_
  refine g_lconst (v := 1) hC dX12_names_3 (by decide) ?_
  refine g_callS hC (f_X12_in (kl K) E wh.toInt64 0 1) wX12_in m4_31 dX12_names_4 [] [(q 0, .inr (12, oM q ab be fe fc mo bl ta tl tkn va)), (q 1, .inl (E.2.1 0, 188, .inl a)), (q 4, .inl (E.2.1 0, 3, .inl r))] (by decide) rfl (Nat.le_of_ble_eq_true rfl) rfl rfl rfl rfl rfl ?_
  refine g_val (v' := .int (bI (inB wh 2))) (by rw [inlC (n := 2) (by decide)]) ?_
  refine g_if_neB (tgt := 17) hC dX12_names_7 (by decide) (fun h_7 => ?_) (fun h_7 => ?_)
  · exact absurd h_7 (by rw [hb]; decide)
  · refine g_aload_n hC dX12_names_10 rfl 0 rfl ?_
    refine g_bipush (v := (-2)) hC dX12_names_11 (by decide) ?_
    refine g_callV hC (f_X12_bad (kl K) E q ab be fe fc mo bl ta tl tkn va r (-2)) wX12_bad m4_34 dX12_names_13 [0, 2] [(q 0, .inr (12, oM q ab be fe fc mo bl ta tl tkn va)), (q 1, .inl (E.2.1 0, 188, .inl a)), (q 4, .inl (E.2.1 0, 3, .inl (upd r 0 (r 0 + nI 1))))] 0 12 rfl rfl (by decide) rfl (Nat.le_of_ble_eq_true rfl) rfl rfl rfl rfl rfl ?_
    exact g_val (rfl) (g_ws (rfl) (hR _ _ dX12_names_16))
