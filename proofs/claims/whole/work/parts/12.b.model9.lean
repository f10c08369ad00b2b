set_option maxHeartbeats 4000000 in
set_option maxRecDepth 100000 in
theorem f_X12_part_0 (l : Launch) (E : Ew) (q : Nat → Nat) (ab : Int64) (be : Int64) (fe : Int32) (fc : Int32) (mo : Int32) (bl : Int32) (ta : Int32) (tl : Int32) (tkn : Int32) (va : Int32) (r : Nat → Int32)  : Fn l E 1 yX12_part cX12_part 2 (some .long) [.ref (q 0), .int (nI 0)] [(q 0, .inr (12, oM q ab be fe fc mo bl ta tl tkn va)), (q 4, .inl (E.2.1 0, 3, .inl r))] (some (.long ab)) [(q 0, .inr (12, oM q ab be fe fc mo bl ta tl tkn va)), (q 4, .inl (E.2.1 0, 3, .inl r))] := by
  refine fn_L (by decide) (Nat.le_of_ble_eq_true rfl) rfl ?_
  intro K hC hR
  show G K E 2 [(q 0, .inr (12, oM q ab be fe fc mo bl ta tl tkn va)), (q 4, .inl (E.2.1 0, 3, .inl r))] [(0, .ref (q 0)), (1, .int (nI 0))] 0 []
  refine g_iload_n hC dX12_part_0 rfl 1 rfl ?_
  refine g_if_neN (tgt := 11) hC dX12_part_1 (by decide) (by omega) (fun h_1 => ?_) (fun h_1 => ?_)
  · omega
  · refine g_aload_n hC dX12_part_4 rfl 0 rfl ?_
    refine g_get hC 0 12 4 inX12 m3_212 dX12_part_5 rfl rfl (by decide) rfl ?_
    refine g_goto (tgt := 30) hC dX12_part_8 (by decide) ?_
    exact g_val (rfl) (g_ws (rfl) (hR _ _ dX12_part_30))
set_option maxHeartbeats 4000000 in
set_option maxRecDepth 100000 in
theorem f_X12_part_1 (l : Launch) (E : Ew) (q : Nat → Nat) (ab : Int64) (be : Int64) (fe : Int32) (fc : Int32) (mo : Int32) (bl : Int32) (ta : Int32) (tl : Int32) (tkn : Int32) (va : Int32) (r : Nat → Int32)  : Fn l E 1 yX12_part cX12_part 2 (some .long) [.ref (q 0), .int (nI 1)] [(q 0, .inr (12, oM q ab be fe fc mo bl ta tl tkn va)), (q 4, .inl (E.2.1 0, 3, .inl r))] (some (.long be)) [(q 0, .inr (12, oM q ab be fe fc mo bl ta tl tkn va)), (q 4, .inl (E.2.1 0, 3, .inl r))] := by
  refine fn_L (by decide) (Nat.le_of_ble_eq_true rfl) rfl ?_
  intro K hC hR
  show G K E 2 [(q 0, .inr (12, oM q ab be fe fc mo bl ta tl tkn va)), (q 4, .inl (E.2.1 0, 3, .inl r))] [(0, .ref (q 0)), (1, .int (nI 1))] 0 []
  refine g_iload_n hC dX12_part_0 rfl 1 rfl ?_
  refine g_if_neN (tgt := 11) hC dX12_part_1 (by decide) (by omega) (fun h_1 => ?_) (fun h_1 => ?_)
  · refine g_iload_n hC dX12_part_11 rfl 1 rfl ?_
    refine g_iconst (v := (nI 1)) hC dX12_part_12 (by decide) ?_
    refine g_icmp_neN (tgt := 23) hC dX12_part_13 (by decide) (by omega) (by omega) (fun h_13 => ?_) (fun h_13 => ?_)
    · omega
    · refine g_aload_n hC dX12_part_16 rfl 0 rfl ?_
      refine g_get hC 0 12 5 inX12 m3_213 dX12_part_17 rfl rfl (by decide) rfl ?_
      refine g_goto (tgt := 30) hC dX12_part_20 (by decide) ?_
      exact g_val (rfl) (g_ws (rfl) (hR _ _ dX12_part_30))
  · omega
set_option maxHeartbeats 4000000 in
set_option maxRecDepth 100000 in
theorem f_X12_part_bad (l : Launch) (E : Ew) (q : Nat → Nat) (ab : Int64) (be : Int64) (fe : Int32) (fc : Int32) (mo : Int32) (bl : Int32) (ta : Int32) (tl : Int32) (tkn : Int32) (va : Int32) (r : Nat → Int32) (wh : Int32) (hb : inB wh 2 = false) : Fn l E 1 yX12_part cX12_part 2 (some .long) [.ref (q 0), .int wh] [(q 0, .inr (12, oM q ab be fe fc mo bl ta tl tkn va)), (q 4, .inl (E.2.1 0, 3, .inl r))] (some (.long ((-2 : Int32).toInt64))) [(q 0, .inr (12, oM q ab be fe fc mo bl ta tl tkn va)), (q 4, .inl (E.2.1 0, 3, .inl (upd r 0 (r 0 + nI 1))))] := by
  refine fn_L (by decide) (Nat.le_of_ble_eq_true rfl) rfl ?_
  intro K hC hR
  show G K E 2 [(q 0, .inr (12, oM q ab be fe fc mo bl ta tl tkn va)), (q 4, .inl (E.2.1 0, 3, .inl r))] [(0, .ref (q 0)), (1, .int wh)] 0 []
  refine g_iload_n hC dX12_part_0 rfl 1 rfl ?_
  refine g_if_ne (tgt := 11) hC dX12_part_1 (by decide) (fun h_1 => ?_) (fun h_1 => ?_)
  · refine g_iload_n hC dX12_part_11 rfl 1 rfl ?_
    refine g_iconst (v := (nI 1)) hC dX12_part_12 (by decide) ?_
    refine g_icmp_ne (tgt := 23) hC dX12_part_13 (by decide) (fun h_13 => ?_) (fun h_13 => ?_)
    · refine g_aload_n hC dX12_part_23 rfl 0 rfl ?_
      refine g_bipush (v := (-2)) hC dX12_part_24 (by decide) ?_
      refine g_callV hC (f_X12_bad (kl K) E q ab be fe fc mo bl ta tl tkn va r (-2)) wX12_bad m4_34 dX12_part_26 [0, 1] [(q 0, .inr (12, oM q ab be fe fc mo bl ta tl tkn va)), (q 4, .inl (E.2.1 0, 3, .inl (upd r 0 (r 0 + nI 1))))] 0 12 rfl rfl (by decide) rfl (Nat.le_of_ble_eq_true rfl) rfl rfl rfl rfl rfl ?_
      refine g_i2l hC dX12_part_29 ?_
      exact g_val (rfl) (g_ws (rfl) (hR _ _ dX12_part_30))
    · rw [h_13] at hb; exact absurd hb (by decide)
  · rw [h_1] at hb; exact absurd hb (by decide)
set_option maxHeartbeats 4000000 in
set_option maxRecDepth 100000 in
theorem f_X12_image_ok (l : Launch) (E : Ew) (q : Nat → Nat) (ab : Int64) (be : Int64) (fe : Int32) (fc : Int32) (mo : Int32) (bl : Int32) (ta : Int32) (tl : Int32) (tkn : Int32) (va : Int32) (a : Nat → Int32) (r : Nat → Int32) (kp0 : Nat → Int32) (ik : Nat → Int32) (i : Nat) (hi : i < 2) : Fn l E 1 yX12_image cX12_image 3 (some .int) [.ref (q 0), .int (nI i)] [(q 0, .inr (12, oM q ab be fe fc mo bl ta tl tkn va)), (q 1, .inl (E.2.1 0, 188, .inl a)), (q 4, .inl (E.2.1 0, 3, .inl r)), (q 2, .inl (E.2.1 0, 376, .inl kp0)), (q 3, .inl (E.2.1 2, 2, .inl ik))] (some (.int (nI 1))) [(q 0, .inr (12, oM q ab be fe fc mo bl ta tl tkn va)), (q 1, .inl (E.2.1 0, 188, .inl a)), (q 4, .inl (E.2.1 0, 3, .inl r)), (q 2, .inl (E.2.1 0, 376, .inl (imK kp0 a i 188))), (q 3, .inl (E.2.1 2, 2, .inl (upd ik i (nI 1))))] := by
  refine fn_I (by decide) (Nat.le_of_ble_eq_true rfl) rfl ?_
  intro K hC hR
  show G K E 3 [(q 0, .inr (12, oM q ab be fe fc mo bl ta tl tkn va)), (q 1, .inl (E.2.1 0, 188, .inl a)), (q 4, .inl (E.2.1 0, 3, .inl r)), (q 2, .inl (E.2.1 0, 376, .inl kp0)), (q 3, .inl (E.2.1 2, 2, .inl ik))] [(0, .ref (q 0)), (1, .int (nI i))] 0 []
  refine g_iload_n hC dX12_image_0 rfl 1 rfl ?_
  refine g_i2l hC dX12_image_1 ?_
  refine g_lconst (v := 0) hC dX12_image_2 (by decide) ?_
  refine g_lconst (v := 1) hC dX12_image_3 (by decide) ?_
  refine g_callS hC (f_X12_in (kl K) E ((nI i).toInt64) 0 1) wX12_in m4_31 dX12_image_4 [] [(q 0, .inr (12, oM q ab be fe fc mo bl ta tl tkn va)), (q 1, .inl (E.2.1 0, 188, .inl a)), (q 4, .inl (E.2.1 0, 3, .inl r)), (q 2, .inl (E.2.1 0, 376, .inl kp0)), (q 3, .inl (E.2.1 2, 2, .inl ik))] (by decide) rfl (Nat.le_of_ble_eq_true rfl) rfl rfl rfl rfl rfl ?_
  refine g_val (v' := .int (bI (inB (nI i) 2))) (by rw [inlC (n := 2) (by decide)]) ?_
  refine g_if_neB (tgt := 17) hC dX12_image_7 (by decide) (fun h_7 => ?_) (fun h_7 => ?_)
  · refine g_iconst (v := (nI 0)) hC dX12_image_17 (by decide) ?_
    refine g_istore_n hC [(2, .int (nI 0)), (0, .ref (q 0)), (1, .int (nI i))] dX12_image_18 rfl (by decide) rfl ?_
    have L_19 : ∀ (fu : Nat) (k : Nat) (hk : k ≤ 188), 188 - k < fu → G K E 3 [(q 0, .inr (12, oM q ab be fe fc mo bl ta tl tkn va)), (q 1, .inl (E.2.1 0, 188, .inl a)), (q 4, .inl (E.2.1 0, 3, .inl r)), (q 2, .inl (E.2.1 0, 376, .inl (imK kp0 a i k))), (q 3, .inl (E.2.1 2, 2, .inl ik))] [(2, .int (nI k)), (0, .ref (q 0)), (1, .int (nI i))] 19 [] := by
      intro fu
      induction fu with
      | zero => intro k hk hm_19; exact absurd hm_19 (Nat.not_lt_zero _)
      | succ fu ih_19 =>
        intro k hk hm_19
        refine g_iload_n hC dX12_image_19 rfl 0 rfl ?_
        refine g_sipush (v := (nI 188)) hC dX12_image_20 (by decide) ?_
        refine g_icmp_geN (tgt := 50) hC dX12_image_23 (by decide) (by omega) (by omega) (fun h_23 => ?_) (fun h_23 => ?_)
        · refine g_aload_n hC dX12_image_50 rfl 1 rfl ?_
          refine g_get hC 0 12 2 inX12 m3_210 dX12_image_51 rfl rfl (by decide) rfl ?_
          refine g_iload_n hC dX12_image_54 rfl 2 rfl ?_
          refine g_iconst (v := (nI 1)) hC dX12_image_55 (by decide) ?_
          refine g_zastN hC 4 [(q 0, .inr (12, oM q ab be fe fc mo bl ta tl tkn va)), (q 1, .inl (E.2.1 0, 188, .inl a)), (q 4, .inl (E.2.1 0, 3, .inl r)), (q 2, .inl (E.2.1 0, 376, .inl (imK kp0 a i k))), (q 3, .inl (E.2.1 2, 2, .inl (upd ik i (vp_nar .boolean (nI 1)))))] dX12_image_56 rfl (by decide) (by omega) rfl ?_
          refine g_iconst (v := (nI 1)) hC dX12_image_57 (by decide) ?_
          exact g_val (rfl) (g_ws (by rw [show k = 188 by omega]; rfl) (hR _ _ dX12_image_58))
        · refine g_aload_n hC dX12_image_26 rfl 1 rfl ?_
          refine g_get hC 0 12 1 inX12 m3_209 dX12_image_27 rfl rfl (by decide) rfl ?_
          refine g_sipush (v := (nI 188)) hC dX12_image_30 (by decide) ?_
          refine g_iload_n hC dX12_image_33 rfl 2 rfl ?_
          refine g_imulN hC dX12_image_34 ?_
          refine g_iload_n hC dX12_image_35 rfl 0 rfl ?_
          refine g_iaddN hC dX12_image_36 ?_
          refine g_aload_n hC dX12_image_37 rfl 1 rfl ?_
          refine g_get hC 0 12 0 inX12 m3_208 dX12_image_38 rfl rfl (by decide) rfl ?_
          refine g_iload_n hC dX12_image_41 rfl 0 rfl ?_
          refine g_ialdN hC 1 dX12_image_42 rfl (by decide) (by omega) ?_
          refine g_iastN hC 3 [(q 0, .inr (12, oM q ab be fe fc mo bl ta tl tkn va)), (q 1, .inl (E.2.1 0, 188, .inl a)), (q 4, .inl (E.2.1 0, 3, .inl r)), (q 2, .inl (E.2.1 0, 376, .inl (upd (imK kp0 a i k) ((188 * i) + k) (a k)))), (q 3, .inl (E.2.1 2, 2, .inl ik))] dX12_image_43 rfl (by decide) (by omega) rfl ?_
          refine g_iincN hC (q := 0) 1 [(2, .int (nI (k + 1))), (0, .ref (q 0)), (1, .int (nI i))] dX12_image_44 rfl rfl (by decide) rfl ?_
          refine g_goto (tgt := 19) hC dX12_image_47 (by decide) ?_
          refine g_lv (lv' := [(2, .int (nI (k + 1))), (0, .ref (q 0)), (1, .int (nI i))]) [0, 1, 2] rfl ?_
          refine g_ws (ws' := [(q 0, .inr (12, oM q ab be fe fc mo bl ta tl tkn va)), (q 1, .inl (E.2.1 0, 188, .inl a)), (q 4, .inl (E.2.1 0, 3, .inl r)), (q 2, .inl (E.2.1 0, 376, .inl (imK kp0 a i (k + 1)))), (q 3, .inl (E.2.1 2, 2, .inl ik))]) (by rw [imK_s]) ?_
          exact ih_19 (k + 1) (by omega) (by omega)
    refine g_lv (lv' := [(2, .int (nI 0)), (0, .ref (q 0)), (1, .int (nI i))]) [0, 1, 2] rfl ?_
    refine g_ws (ws' := [(q 0, .inr (12, oM q ab be fe fc mo bl ta tl tkn va)), (q 1, .inl (E.2.1 0, 188, .inl a)), (q 4, .inl (E.2.1 0, 3, .inl r)), (q 2, .inl (E.2.1 0, 376, .inl (imK kp0 a i 0))), (q 3, .inl (E.2.1 2, 2, .inl ik))]) (by rw [imK_0]) ?_
    exact L_19 ((188 - 0) + 1) 0 (by omega) (Nat.lt_succ_self _)
  · exact Bool.noConfusion ((inB_ok (by omega) (by omega)).symm.trans h_7)
set_option maxHeartbeats 4000000 in
set_option maxRecDepth 100000 in
theorem f_X12_image_bad (l : Launch) (E : Ew) (q : Nat → Nat) (ab : Int64) (be : Int64) (fe : Int32) (fc : Int32) (mo : Int32) (bl : Int32) (ta : Int32) (tl : Int32) (tkn : Int32) (va : Int32) (r : Nat → Int32) (i : Int32) (hb : inB i 2 = false) : Fn l E 1 yX12_image cX12_image 3 (some .int) [.ref (q 0), .int i] [(q 0, .inr (12, oM q ab be fe fc mo bl ta tl tkn va)), (q 4, .inl (E.2.1 0, 3, .inl r))] (some (.int (-2))) [(q 0, .inr (12, oM q ab be fe fc mo bl ta tl tkn va)), (q 4, .inl (E.2.1 0, 3, .inl (upd r 0 (r 0 + nI 1))))] := by
  refine fn_I (by decide) (Nat.le_of_ble_eq_true rfl) rfl ?_
  intro K hC hR
  show G K E 3 [(q 0, .inr (12, oM q ab be fe fc mo bl ta tl tkn va)), (q 4, .inl (E.2.1 0, 3, .inl r))] [(0, .ref (q 0)), (1, .int i)] 0 []
  refine g_iload_n hC dX12_image_0 rfl 1 rfl ?_
  refine g_i2l hC dX12_image_1 ?_
  refine g_lconst (v := 0) hC dX12_image_2 (by decide) ?_
  refine g_lconst (v := 1) hC dX12_image_3 (by decide) ?_
  refine g_callS hC (f_X12_in (kl K) E i.toInt64 0 1) wX12_in m4_31 dX12_image_4 [] [(q 0, .inr (12, oM q ab be fe fc mo bl ta tl tkn va)), (q 4, .inl (E.2.1 0, 3, .inl r))] (by decide) rfl (Nat.le_of_ble_eq_true rfl) rfl rfl rfl rfl rfl ?_
  refine g_val (v' := .int (bI (inB i 2))) (by rw [inlC (n := 2) (by decide)]) ?_
  refine g_if_neB (tgt := 17) hC dX12_image_7 (by decide) (fun h_7 => ?_) (fun h_7 => ?_)
  · exact absurd h_7 (by rw [hb]; decide)
  · refine g_aload_n hC dX12_image_10 rfl 0 rfl ?_
    refine g_bipush (v := (-2)) hC dX12_image_11 (by decide) ?_
    refine g_callV hC (f_X12_bad (kl K) E q ab be fe fc mo bl ta tl tkn va r (-2)) wX12_bad m4_34 dX12_image_13 [0, 1] [(q 0, .inr (12, oM q ab be fe fc mo bl ta tl tkn va)), (q 4, .inl (E.2.1 0, 3, .inl (upd r 0 (r 0 + nI 1))))] 0 12 rfl rfl (by decide) rfl (Nat.le_of_ble_eq_true rfl) rfl rfl rfl rfl rfl ?_
    exact g_val (rfl) (g_ws (rfl) (hR _ _ dX12_image_16))
set_option maxHeartbeats 4000000 in
set_option maxRecDepth 100000 in
theorem f_X12_from_ok (l : Launch) (E : Ew) (q : Nat → Nat) (ab : Int64) (be : Int64) (fe : Int32) (fc : Int32) (mo : Int32) (bl : Int32) (ta : Int32) (tl : Int32) (tkn : Int32) (va : Int32) (a : Nat → Int32) (r : Nat → Int32) (kp0 : Nat → Int32) (ik : Nat → Int32) (i : Nat) (hi : i < 2) (hk1 : ik i = nI 1) : Fn l E 1 yX12_from cX12_from 3 (some .int) [.ref (q 0), .int (nI i)] [(q 0, .inr (12, oM q ab be fe fc mo bl ta tl tkn va)), (q 1, .inl (E.2.1 0, 188, .inl a)), (q 4, .inl (E.2.1 0, 3, .inl r)), (q 2, .inl (E.2.1 0, 376, .inl kp0)), (q 3, .inl (E.2.1 2, 2, .inl ik))] (some (.int (nI 1))) [(q 0, .inr (12, oM q ab be fe fc mo bl ta tl tkn va)), (q 1, .inl (E.2.1 0, 188, .inl (nw a (fun j => kp0 (188 * i + j)) 188))), (q 4, .inl (E.2.1 0, 3, .inl r)), (q 2, .inl (E.2.1 0, 376, .inl kp0)), (q 3, .inl (E.2.1 2, 2, .inl ik))] := by
  refine fn_I (by decide) (Nat.le_of_ble_eq_true rfl) rfl ?_
  intro K hC hR
  show G K E 3 [(q 0, .inr (12, oM q ab be fe fc mo bl ta tl tkn va)), (q 1, .inl (E.2.1 0, 188, .inl a)), (q 4, .inl (E.2.1 0, 3, .inl r)), (q 2, .inl (E.2.1 0, 376, .inl kp0)), (q 3, .inl (E.2.1 2, 2, .inl ik))] [(0, .ref (q 0)), (1, .int (nI i))] 0 []
  refine g_iload_n hC dX12_from_0 rfl 1 rfl ?_
  refine g_i2l hC dX12_from_1 ?_
  refine g_lconst (v := 0) hC dX12_from_2 (by decide) ?_
  refine g_lconst (v := 1) hC dX12_from_3 (by decide) ?_
  refine g_callS hC (f_X12_in (kl K) E ((nI i).toInt64) 0 1) wX12_in m4_31 dX12_from_4 [] [(q 0, .inr (12, oM q ab be fe fc mo bl ta tl tkn va)), (q 1, .inl (E.2.1 0, 188, .inl a)), (q 4, .inl (E.2.1 0, 3, .inl r)), (q 2, .inl (E.2.1 0, 376, .inl kp0)), (q 3, .inl (E.2.1 2, 2, .inl ik))] (by decide) rfl (Nat.le_of_ble_eq_true rfl) rfl rfl rfl rfl rfl ?_
  refine g_val (v' := .int (bI (inB (nI i) 2))) (by rw [inlC (n := 2) (by decide)]) ?_
  refine g_if_neB (tgt := 17) hC dX12_from_7 (by decide) (fun h_7 => ?_) (fun h_7 => ?_)
  · refine g_aload_n hC dX12_from_17 rfl 0 rfl ?_
    refine g_get hC 0 12 2 inX12 m3_210 dX12_from_18 rfl rfl (by decide) rfl ?_
    refine g_iload_n hC dX12_from_21 rfl 1 rfl ?_
    refine g_zaldN hC 4 dX12_from_22 rfl (by decide) (by omega) ?_
    refine g_val (v' := .int (nI 1)) (by rw [hk1]) ?_
    refine g_if_neN (tgt := 31) hC dX12_from_23 (by decide) (by omega) (fun h_23 => ?_) (fun h_23 => ?_)
    · refine g_iconst (v := (nI 0)) hC dX12_from_31 (by decide) ?_
      refine g_istore_n hC [(2, .int (nI 0)), (0, .ref (q 0)), (1, .int (nI i))] dX12_from_32 rfl (by decide) rfl ?_
      have L_33 : ∀ (fu : Nat) (k : Nat) (hk : k ≤ 188), 188 - k < fu → G K E 3 [(q 0, .inr (12, oM q ab be fe fc mo bl ta tl tkn va)), (q 1, .inl (E.2.1 0, 188, .inl (nw a (fun j => kp0 (188 * i + j)) k))), (q 4, .inl (E.2.1 0, 3, .inl r)), (q 2, .inl (E.2.1 0, 376, .inl kp0)), (q 3, .inl (E.2.1 2, 2, .inl ik))] [(2, .int (nI k)), (0, .ref (q 0)), (1, .int (nI i))] 33 [] := by
        intro fu
        induction fu with
        | zero => intro k hk hm_33; exact absurd hm_33 (Nat.not_lt_zero _)
        | succ fu ih_33 =>
          intro k hk hm_33
          refine g_iload_n hC dX12_from_33 rfl 0 rfl ?_
          refine g_sipush (v := (nI 188)) hC dX12_from_34 (by decide) ?_
          refine g_icmp_geN (tgt := 64) hC dX12_from_37 (by decide) (by omega) (by omega) (fun h_37 => ?_) (fun h_37 => ?_)
          · refine g_iconst (v := (nI 1)) hC dX12_from_64 (by decide) ?_
            exact g_val (rfl) (g_ws (by rw [show k = 188 by omega]) (hR _ _ dX12_from_65))
          · refine g_aload_n hC dX12_from_40 rfl 1 rfl ?_
            refine g_get hC 0 12 0 inX12 m3_208 dX12_from_41 rfl rfl (by decide) rfl ?_
            refine g_iload_n hC dX12_from_44 rfl 0 rfl ?_
            refine g_aload_n hC dX12_from_45 rfl 1 rfl ?_
            refine g_get hC 0 12 1 inX12 m3_209 dX12_from_46 rfl rfl (by decide) rfl ?_
            refine g_sipush (v := (nI 188)) hC dX12_from_49 (by decide) ?_
            refine g_iload_n hC dX12_from_52 rfl 2 rfl ?_
            refine g_imulN hC dX12_from_53 ?_
            refine g_iload_n hC dX12_from_54 rfl 0 rfl ?_
            refine g_iaddN hC dX12_from_55 ?_
            refine g_ialdN hC 3 dX12_from_56 rfl (by decide) (by omega) ?_
            refine g_iastN hC 1 [(q 0, .inr (12, oM q ab be fe fc mo bl ta tl tkn va)), (q 1, .inl (E.2.1 0, 188, .inl (upd (nw a (fun j => kp0 (188 * i + j)) k) k (kp0 ((188 * i) + k))))), (q 4, .inl (E.2.1 0, 3, .inl r)), (q 2, .inl (E.2.1 0, 376, .inl kp0)), (q 3, .inl (E.2.1 2, 2, .inl ik))] dX12_from_57 rfl (by decide) (by omega) rfl ?_
            refine g_iincN hC (q := 0) 1 [(2, .int (nI (k + 1))), (0, .ref (q 0)), (1, .int (nI i))] dX12_from_58 rfl rfl (by decide) rfl ?_
            refine g_goto (tgt := 33) hC dX12_from_61 (by decide) ?_
            refine g_lv (lv' := [(2, .int (nI (k + 1))), (0, .ref (q 0)), (1, .int (nI i))]) [0, 1, 2] rfl ?_
            refine g_ws (ws' := [(q 0, .inr (12, oM q ab be fe fc mo bl ta tl tkn va)), (q 1, .inl (E.2.1 0, 188, .inl (nw a (fun j => kp0 (188 * i + j)) (k + 1)))), (q 4, .inl (E.2.1 0, 3, .inl r)), (q 2, .inl (E.2.1 0, 376, .inl kp0)), (q 3, .inl (E.2.1 2, 2, .inl ik))]) (by rw [← nw_s]) ?_
            exact ih_33 (k + 1) (by omega) (by omega)
      refine g_lv (lv' := [(2, .int (nI 0)), (0, .ref (q 0)), (1, .int (nI i))]) [0, 1, 2] rfl ?_
      refine g_ws (ws' := [(q 0, .inr (12, oM q ab be fe fc mo bl ta tl tkn va)), (q 1, .inl (E.2.1 0, 188, .inl (nw a (fun j => kp0 (188 * i + j)) 0))), (q 4, .inl (E.2.1 0, 3, .inl r)), (q 2, .inl (E.2.1 0, 376, .inl kp0)), (q 3, .inl (E.2.1 2, 2, .inl ik))]) (by rw [nw_0]) ?_
      exact L_33 ((188 - 0) + 1) 0 (by omega) (Nat.lt_succ_self _)
    · omega
  · exact Bool.noConfusion ((inB_ok (by omega) (by omega)).symm.trans h_7)
set_option maxHeartbeats 4000000 in
set_option maxRecDepth 100000 in
theorem f_X12_from_no (l : Launch) (E : Ew) (q : Nat → Nat) (ab : Int64) (be : Int64) (fe : Int32) (fc : Int32) (mo : Int32) (bl : Int32) (ta : Int32) (tl : Int32) (tkn : Int32) (va : Int32) (r : Nat → Int32) (ik : Nat → Int32) (i : Nat) (hi : i < 2) (hk0 : ik i = nI 0) : Fn l E 1 yX12_from cX12_from 3 (some .int) [.ref (q 0), .int (nI i)] [(q 0, .inr (12, oM q ab be fe fc mo bl ta tl tkn va)), (q 4, .inl (E.2.1 0, 3, .inl r)), (q 3, .inl (E.2.1 2, 2, .inl ik))] (some (.int (-3))) [(q 0, .inr (12, oM q ab be fe fc mo bl ta tl tkn va)), (q 4, .inl (E.2.1 0, 3, .inl (upd r 1 (r 1 + nI 1)))), (q 3, .inl (E.2.1 2, 2, .inl ik))] := by
  refine fn_I (by decide) (Nat.le_of_ble_eq_true rfl) rfl ?_
  intro K hC hR
  show G K E 3 [(q 0, .inr (12, oM q ab be fe fc mo bl ta tl tkn va)), (q 4, .inl (E.2.1 0, 3, .inl r)), (q 3, .inl (E.2.1 2, 2, .inl ik))] [(0, .ref (q 0)), (1, .int (nI i))] 0 []
  refine g_iload_n hC dX12_from_0 rfl 1 rfl ?_
  refine g_i2l hC dX12_from_1 ?_
  refine g_lconst (v := 0) hC dX12_from_2 (by decide) ?_
  refine g_lconst (v := 1) hC dX12_from_3 (by decide) ?_
  refine g_callS hC (f_X12_in (kl K) E ((nI i).toInt64) 0 1) wX12_in m4_31 dX12_from_4 [] [(q 0, .inr (12, oM q ab be fe fc mo bl ta tl tkn va)), (q 4, .inl (E.2.1 0, 3, .inl r)), (q 3, .inl (E.2.1 2, 2, .inl ik))] (by decide) rfl (Nat.le_of_ble_eq_true rfl) rfl rfl rfl rfl rfl ?_
  refine g_val (v' := .int (bI (inB (nI i) 2))) (by rw [inlC (n := 2) (by decide)]) ?_
  refine g_if_neB (tgt := 17) hC dX12_from_7 (by decide) (fun h_7 => ?_) (fun h_7 => ?_)
  · refine g_aload_n hC dX12_from_17 rfl 0 rfl ?_
    refine g_get hC 0 12 2 inX12 m3_210 dX12_from_18 rfl rfl (by decide) rfl ?_
    refine g_iload_n hC dX12_from_21 rfl 1 rfl ?_
    refine g_zaldN hC 2 dX12_from_22 rfl (by decide) (by omega) ?_
    refine g_val (v' := .int (nI 0)) (by rw [hk0]) ?_
    refine g_if_neN (tgt := 31) hC dX12_from_23 (by decide) (by omega) (fun h_23 => ?_) (fun h_23 => ?_)
    · omega
    · refine g_aload_n hC dX12_from_26 rfl 0 rfl ?_
      refine g_callV hC (f_X12_no (kl K) E q ab be fe fc mo bl ta tl tkn va r) wX12_no m4_111 dX12_from_27 [0, 1] [(q 0, .inr (12, oM q ab be fe fc mo bl ta tl tkn va)), (q 4, .inl (E.2.1 0, 3, .inl (upd r 1 (r 1 + nI 1)))), (q 3, .inl (E.2.1 2, 2, .inl ik))] 0 12 rfl rfl (by decide) rfl (Nat.le_of_ble_eq_true rfl) rfl rfl rfl rfl rfl ?_
      exact g_val (rfl) (g_ws (rfl) (hR _ _ dX12_from_30))
  · exact Bool.noConfusion ((inB_ok (by omega) (by omega)).symm.trans h_7)
set_option maxHeartbeats 4000000 in
set_option maxRecDepth 100000 in
theorem f_X12_from_bad (l : Launch) (E : Ew) (q : Nat → Nat) (ab : Int64) (be : Int64) (fe : Int32) (fc : Int32) (mo : Int32) (bl : Int32) (ta : Int32) (tl : Int32) (tkn : Int32) (va : Int32) (r : Nat → Int32) (i : Int32) (hb : inB i 2 = false) : Fn l E 1 yX12_from cX12_from 3 (some .int) [.ref (q 0), .int i] [(q 0, .inr (12, oM q ab be fe fc mo bl ta tl tkn va)), (q 4, .inl (E.2.1 0, 3, .inl r))] (some (.int (-2))) [(q 0, .inr (12, oM q ab be fe fc mo bl ta tl tkn va)), (q 4, .inl (E.2.1 0, 3, .inl (upd r 0 (r 0 + nI 1))))] := by
  refine fn_I (by decide) (Nat.le_of_ble_eq_true rfl) rfl ?_
  intro K hC hR
  show G K E 3 [(q 0, .inr (12, oM q ab be fe fc mo bl ta tl tkn va)), (q 4, .inl (E.2.1 0, 3, .inl r))] [(0, .ref (q 0)), (1, .int i)] 0 []
  refine g_iload_n hC dX12_from_0 rfl 1 rfl ?_
  refine g_i2l hC dX12_from_1 ?_
  refine g_lconst (v := 0) hC dX12_from_2 (by decide) ?_
  refine g_lconst (v := 1) hC dX12_from_3 (by decide) ?_
  refine g_callS hC (f_X12_in (kl K) E i.toInt64 0 1) wX12_in m4_31 dX12_from_4 [] [(q 0, .inr (12, oM q ab be fe fc mo bl ta tl tkn va)), (q 4, .inl (E.2.1 0, 3, .inl r))] (by decide) rfl (Nat.le_of_ble_eq_true rfl) rfl rfl rfl rfl rfl ?_
  refine g_val (v' := .int (bI (inB i 2))) (by rw [inlC (n := 2) (by decide)]) ?_
  refine g_if_neB (tgt := 17) hC dX12_from_7 (by decide) (fun h_7 => ?_) (fun h_7 => ?_)
  · exact absurd h_7 (by rw [hb]; decide)
  · refine g_aload_n hC dX12_from_10 rfl 0 rfl ?_
    refine g_bipush (v := (-2)) hC dX12_from_11 (by decide) ?_
    refine g_callV hC (f_X12_bad (kl K) E q ab be fe fc mo bl ta tl tkn va r (-2)) wX12_bad m4_34 dX12_from_13 [0, 1] [(q 0, .inr (12, oM q ab be fe fc mo bl ta tl tkn va)), (q 4, .inl (E.2.1 0, 3, .inl (upd r 0 (r 0 + nI 1))))] 0 12 rfl rfl (by decide) rfl (Nat.le_of_ble_eq_true rfl) rfl rfl rfl rfl rfl ?_
    exact g_val (rfl) (g_ws (rfl) (hR _ _ dX12_from_16))
set_option maxHeartbeats 4000000 in
set_option maxRecDepth 100000 in
theorem f_X12_status_ok (l : Launch) (E : Ew) (q : Nat → Nat) (ab : Int64) (be : Int64) (fe : Int32) (fc : Int32) (mo : Int32) (bl : Int32) (ta : Int32) (tl : Int32) (tkn : Int32) (va : Int32) (r : Nat → Int32) (wh : Nat) (hwh : wh < 3) : Fn l E 1 yX12_status cX12_status 2 (some .int) [.ref (q 0), .int (nI wh)] [(q 0, .inr (12, oM q ab be fe fc mo bl ta tl tkn va)), (q 4, .inl (E.2.1 0, 3, .inl r))] (some (.int (r wh))) [(q 0, .inr (12, oM q ab be fe fc mo bl ta tl tkn va)), (q 4, .inl (E.2.1 0, 3, .inl r))] := by
  refine fn_I (by decide) (Nat.le_of_ble_eq_true rfl) rfl ?_
  intro K hC hR
  show G K E 2 [(q 0, .inr (12, oM q ab be fe fc mo bl ta tl tkn va)), (q 4, .inl (E.2.1 0, 3, .inl r))] [(0, .ref (q 0)), (1, .int (nI wh))] 0 []
  refine g_iload_n hC dX12_status_0 rfl 1 rfl ?_
  refine g_i2l hC dX12_status_1 ?_
  refine g_lconst (v := 0) hC dX12_status_2 (by decide) ?_
  refine g_ldc2 (v := 2) hC dX12_status_3 m4_119 ?_
  refine g_callS hC (f_X12_in (kl K) E ((nI wh).toInt64) 0 2) wX12_in m4_31 dX12_status_6 [] [(q 0, .inr (12, oM q ab be fe fc mo bl ta tl tkn va)), (q 4, .inl (E.2.1 0, 3, .inl r))] (by decide) rfl (Nat.le_of_ble_eq_true rfl) rfl rfl rfl rfl rfl ?_
  refine g_val (v' := .int (bI (inB (nI wh) 3))) (by rw [inlC (n := 3) (by decide)]) ?_
  refine g_if_eqB (tgt := 21) hC dX12_status_9 (by decide) (fun h_9 => ?_) (fun h_9 => ?_)
  · exact Bool.noConfusion ((inB_ok (by omega) (by omega)).symm.trans h_9)
  · refine g_aload_n hC dX12_status_12 rfl 0 rfl ?_
    refine g_get hC 0 12 3 inX12 m3_211 dX12_status_13 rfl rfl (by decide) rfl ?_
    refine g_iload_n hC dX12_status_16 rfl 1 rfl ?_
    refine g_ialdN hC 1 dX12_status_17 rfl (by decide) (by omega) ?_
    refine g_goto (tgt := 26) hC dX12_status_18 (by decide) ?_
    exact g_val (rfl) (g_ws (rfl) (hR _ _ dX12_status_26))
set_option maxHeartbeats 4000000 in
set_option maxRecDepth 100000 in
theorem f_X12_status_bad (l : Launch) (E : Ew) (q : Nat → Nat) (ab : Int64) (be : Int64) (fe : Int32) (fc : Int32) (mo : Int32) (bl : Int32) (ta : Int32) (tl : Int32) (tkn : Int32) (va : Int32) (r : Nat → Int32) (wh : Int32) (hb : inB wh 3 = false) : Fn l E 1 yX12_status cX12_status 2 (some .int) [.ref (q 0), .int wh] [(q 0, .inr (12, oM q ab be fe fc mo bl ta tl tkn va)), (q 4, .inl (E.2.1 0, 3, .inl r))] (some (.int (-1))) [(q 0, .inr (12, oM q ab be fe fc mo bl ta tl tkn va)), (q 4, .inl (E.2.1 0, 3, .inl (upd r 0 (r 0 + nI 1))))] := by
  refine fn_I (by decide) (Nat.le_of_ble_eq_true rfl) rfl ?_
  intro K hC hR
  show G K E 2 [(q 0, .inr (12, oM q ab be fe fc mo bl ta tl tkn va)), (q 4, .inl (E.2.1 0, 3, .inl r))] [(0, .ref (q 0)), (1, .int wh)] 0 []
  refine g_iload_n hC dX12_status_0 rfl 1 rfl ?_
  refine g_i2l hC dX12_status_1 ?_
  refine g_lconst (v := 0) hC dX12_status_2 (by decide) ?_
  refine g_ldc2 (v := 2) hC dX12_status_3 m4_119 ?_
  refine g_callS hC (f_X12_in (kl K) E wh.toInt64 0 2) wX12_in m4_31 dX12_status_6 [] [(q 0, .inr (12, oM q ab be fe fc mo bl ta tl tkn va)), (q 4, .inl (E.2.1 0, 3, .inl r))] (by decide) rfl (Nat.le_of_ble_eq_true rfl) rfl rfl rfl rfl rfl ?_
  refine g_val (v' := .int (bI (inB wh 3))) (by rw [inlC (n := 3) (by decide)]) ?_
  refine g_if_eqB (tgt := 21) hC dX12_status_9 (by decide) (fun h_9 => ?_) (fun h_9 => ?_)
  · refine g_aload_n hC dX12_status_21 rfl 0 rfl ?_
    refine g_iconst (v := (-1)) hC dX12_status_22 (by decide) ?_
    refine g_callV hC (f_X12_bad (kl K) E q ab be fe fc mo bl ta tl tkn va r (-1)) wX12_bad m4_34 dX12_status_23 [0, 1] [(q 0, .inr (12, oM q ab be fe fc mo bl ta tl tkn va)), (q 4, .inl (E.2.1 0, 3, .inl (upd r 0 (r 0 + nI 1))))] 0 12 rfl rfl (by decide) rfl (Nat.le_of_ble_eq_true rfl) rfl rfl rfl rfl rfl ?_
    exact g_val (rfl) (g_ws (rfl) (hR _ _ dX12_status_26))
  · exact absurd h_9 (by rw [hb]; decide)
set_option maxHeartbeats 4000000 in
set_option maxRecDepth 100000 in
theorem f_X12_counted (l : Launch) (E : Ew) (q : Nat → Nat) (ab : Int64) (be : Int64) (fe : Int32) (fc : Int32) (mo : Int32) (bl : Int32) (ta : Int32) (tl : Int32) (tkn : Int32) (va : Int32) (a : Nat → Int32) (g : Nat → Int32) (n : Nat) (wh : Nat) (hn : a 0 = nI n) (hn7 : n ≤ 7) (hwh : wh < 7) : Fn l E 2 yX12_counted cX12_counted 2 (some .int) [.ref (q 0), .int (nI wh)] [(q 0, .inr (12, oM q ab be fe fc mo bl ta tl tkn va)), (q 1, .inl (E.2.1 0, 188, .inl a)), (q 5, .inl (E.2.1 0, 7, .inl g))] (some (.int (cnF a n bl wh))) [(q 0, .inr (12, oM q ab be fe fc mo bl ta tl tkn va)), (q 1, .inl (E.2.1 0, 188, .inl a)), (q 5, .inl (E.2.1 0, 7, .inl (hnd a g n)))] := by
  refine fn_I (by decide) (Nat.le_of_ble_eq_true rfl) rfl ?_
  intro K hC hR
  show G K E 2 [(q 0, .inr (12, oM q ab be fe fc mo bl ta tl tkn va)), (q 1, .inl (E.2.1 0, 188, .inl a)), (q 5, .inl (E.2.1 0, 7, .inl g))] [(0, .ref (q 0)), (1, .int (nI wh))] 0 []
  refine g_aload_n hC dX12_counted_0 rfl 0 rfl ?_
  refine g_callV hC (f_X12_layHand (kl K) E q ab be fe fc mo bl ta tl tkn va a g n (hn) (hn7)) wX12_layHand m4_70 dX12_counted_1 [0, 1, 2] [(q 0, .inr (12, oM q ab be fe fc mo bl ta tl tkn va)), (q 1, .inl (E.2.1 0, 188, .inl a)), (q 5, .inl (E.2.1 0, 7, .inl (hnd a g n)))] 0 12 rfl rfl (by decide) rfl (Nat.le_of_ble_eq_true rfl) rfl rfl rfl rfl rfl ?_
  refine g_iload_n hC dX12_counted_4 rfl 1 rfl ?_
  by_cases hs_0 : wh = 0
  · refine g_val (v' := .int (nI 0)) (by rw [hs_0]) ?_
    refine g_tabIn hC dX12_counted_5 (by decide) (by decide) (off := 39) (by decide) (tgt := 44) (by decide) ?_
    refine g_aload_n hC dX12_counted_44 rfl 0 rfl ?_
    refine g_callV hC (f_X12_many (kl K) E q ab be fe fc mo bl ta tl tkn va a) wX12_many m4_38 dX12_counted_45 [0, 1] [(q 0, .inr (12, oM q ab be fe fc mo bl ta tl tkn va)), (q 1, .inl (E.2.1 0, 188, .inl a)), (q 5, .inl (E.2.1 0, 7, .inl (hnd a g n)))] 0 12 rfl rfl (by decide) rfl (Nat.le_of_ble_eq_true rfl) rfl rfl rfl rfl rfl ?_
    exact g_val (by unfold cnF; simp [hs_0, ow_cong (g := hnd a g n) (g' := N5 a) hnd5]) (g_ws (rfl) (hR _ _ dX12_counted_48))
  by_cases hs_1 : wh = 1
  · refine g_val (v' := .int (nI 1)) (by rw [hs_1]) ?_
    refine g_tabIn hC dX12_counted_5 (by decide) (by decide) (off := 44) (by decide) (tgt := 49) (by decide) ?_
    refine g_aload_n hC dX12_counted_49 rfl 0 rfl ?_
    refine g_get hC 0 12 0 inX12 m3_208 dX12_counted_50 rfl rfl (by decide) rfl ?_
    refine g_iconst (v := (nI 1)) hC dX12_counted_53 (by decide) ?_
    refine g_ialdN hC 1 dX12_counted_54 rfl (by decide) (by omega) ?_
    exact g_val (by unfold cnF; simp [hs_0, hs_1, ow_cong (g := hnd a g n) (g' := N5 a) hnd5]) (g_ws (rfl) (hR _ _ dX12_counted_55))
  by_cases hs_2 : wh = 2
  · refine g_val (v' := .int (nI 2)) (by rw [hs_2]) ?_
    refine g_tabIn hC dX12_counted_5 (by decide) (by decide) (off := 51) (by decide) (tgt := 56) (by decide) ?_
    refine g_aload_n hC dX12_counted_56 rfl 0 rfl ?_
    refine g_callV hC (f_X12_ownNow (kl K) E q ab be fe fc mo bl ta tl tkn va a (hnd a g n) n (hn) (hn7)) wX12_ownNow m4_159 dX12_counted_57 [0, 1, 2] [(q 0, .inr (12, oM q ab be fe fc mo bl ta tl tkn va)), (q 1, .inl (E.2.1 0, 188, .inl a)), (q 5, .inl (E.2.1 0, 7, .inl (hnd a g n)))] 0 12 rfl rfl (by decide) rfl (Nat.le_of_ble_eq_true rfl) rfl rfl rfl rfl rfl ?_
    exact g_val (by unfold cnF; simp [hs_0, hs_1, hs_2, ow_cong (g := hnd a g n) (g' := N5 a) hnd5]) (g_ws (rfl) (hR _ _ dX12_counted_60))
  by_cases hs_3 : wh = 3
  · refine g_val (v' := .int (nI 3)) (by rw [hs_3]) ?_
    refine g_tabIn hC dX12_counted_5 (by decide) (by decide) (off := 56) (by decide) (tgt := 61) (by decide) ?_
    refine g_aload_n hC dX12_counted_61 rfl 0 rfl ?_
    refine g_get hC 0 12 0 inX12 m3_208 dX12_counted_62 rfl rfl (by decide) rfl ?_
    refine g_iconst (v := (nI 2)) hC dX12_counted_65 (by decide) ?_
    refine g_ialdN hC 1 dX12_counted_66 rfl (by decide) (by omega) ?_
    exact g_val (by unfold cnF; simp [hs_0, hs_1, hs_2, hs_3, ow_cong (g := hnd a g n) (g' := N5 a) hnd5]) (g_ws (rfl) (hR _ _ dX12_counted_67))
  by_cases hs_4 : wh = 4
  · refine g_val (v' := .int (nI 4)) (by rw [hs_4]) ?_
    refine g_tabIn hC dX12_counted_5 (by decide) (by decide) (off := 63) (by decide) (tgt := 68) (by decide) ?_
    refine g_aload_n hC dX12_counted_68 rfl 0 rfl ?_
    refine g_get hC 0 12 0 inX12 m3_208 dX12_counted_69 rfl rfl (by decide) rfl ?_
    refine g_iconst (v := (nI 3)) hC dX12_counted_72 (by decide) ?_
    refine g_ialdN hC 1 dX12_counted_73 rfl (by decide) (by omega) ?_
    exact g_val (by unfold cnF; simp [hs_0, hs_1, hs_2, hs_3, hs_4, ow_cong (g := hnd a g n) (g' := N5 a) hnd5]) (g_ws (rfl) (hR _ _ dX12_counted_74))
  by_cases hs_5 : wh = 5
  · refine g_val (v' := .int (nI 5)) (by rw [hs_5]) ?_
    refine g_tabIn hC dX12_counted_5 (by decide) (by decide) (off := 70) (by decide) (tgt := 75) (by decide) ?_
    refine g_aload_n hC dX12_counted_75 rfl 0 rfl ?_
    refine g_get hC 0 12 0 inX12 m3_208 dX12_counted_76 rfl rfl (by decide) rfl ?_
    refine g_iconst (v := (nI 4)) hC dX12_counted_79 (by decide) ?_
    refine g_ialdN hC 1 dX12_counted_80 rfl (by decide) (by omega) ?_
    exact g_val (by unfold cnF; simp [hs_0, hs_1, hs_2, hs_3, hs_4, hs_5, ow_cong (g := hnd a g n) (g' := N5 a) hnd5]) (g_ws (rfl) (hR _ _ dX12_counted_81))
  refine g_tabOut hC dX12_counted_5 (tab_out (lo := 0) (hi := 5) (by omega) (by omega)) (tgt := 82) (by decide) ?_
  refine g_aload_n hC dX12_counted_82 rfl 0 rfl ?_
  refine g_get hC 0 12 12 inX12 m3_220 dX12_counted_83 rfl rfl (by decide) rfl ?_
  exact g_val (by unfold cnF; simp [hs_0, hs_1, hs_2, hs_3, hs_4, hs_5, ow_cong (g := hnd a g n) (g' := N5 a) hnd5]) (g_ws (rfl) (hR _ _ dX12_counted_86))
set_option maxHeartbeats 4000000 in
set_option maxRecDepth 100000 in
theorem f_X12_count_ok (l : Launch) (E : Ew) (q : Nat → Nat) (ab : Int64) (be : Int64) (fe : Int32) (fc : Int32) (mo : Int32) (bl : Int32) (ta : Int32) (tl : Int32) (tkn : Int32) (va : Int32) (a : Nat → Int32) (r : Nat → Int32) (g : Nat → Int32) (n : Nat) (wh : Nat) (hn : a 0 = nI n) (hn7 : n ≤ 7) (hwh : wh < 7) : Fn l E 3 yX12_count cX12_count 2 (some .int) [.ref (q 0), .int (nI wh)] [(q 0, .inr (12, oM q ab be fe fc mo bl ta tl tkn va)), (q 1, .inl (E.2.1 0, 188, .inl a)), (q 4, .inl (E.2.1 0, 3, .inl r)), (q 5, .inl (E.2.1 0, 7, .inl g))] (some (.int (cnF a n bl wh))) [(q 0, .inr (12, oM q ab be fe fc mo bl ta tl tkn va)), (q 1, .inl (E.2.1 0, 188, .inl a)), (q 4, .inl (E.2.1 0, 3, .inl r)), (q 5, .inl (E.2.1 0, 7, .inl (hnd a g n)))] := by
  refine fn_I (by decide) (Nat.le_of_ble_eq_true rfl) rfl ?_
  intro K hC hR
  show G K E 2 [(q 0, .inr (12, oM q ab be fe fc mo bl ta tl tkn va)), (q 1, .inl (E.2.1 0, 188, .inl a)), (q 4, .inl (E.2.1 0, 3, .inl r)), (q 5, .inl (E.2.1 0, 7, .inl g))] [(0, .ref (q 0)), (1, .int (nI wh))] 0 []
  refine g_iload_n hC dX12_count_0 rfl 1 rfl ?_
  refine g_i2l hC dX12_count_1 ?_
  refine g_lconst (v := 0) hC dX12_count_2 (by decide) ?_
  refine g_ldc2 (v := 6) hC dX12_count_3 m5_71 ?_
  refine g_callS hC (f_X12_in (kl K) E ((nI wh).toInt64) 0 6) wX12_in m4_31 dX12_count_6 [] [(q 0, .inr (12, oM q ab be fe fc mo bl ta tl tkn va)), (q 1, .inl (E.2.1 0, 188, .inl a)), (q 4, .inl (E.2.1 0, 3, .inl r)), (q 5, .inl (E.2.1 0, 7, .inl g))] (by decide) rfl (Nat.le_of_ble_eq_true rfl) rfl rfl rfl rfl rfl ?_
  refine g_val (v' := .int (bI (inB (nI wh) 7))) (by rw [inlC (n := 7) (by decide)]) ?_
  refine g_if_eqB (tgt := 20) hC dX12_count_9 (by decide) (fun h_9 => ?_) (fun h_9 => ?_)
  · exact Bool.noConfusion ((inB_ok (by omega) (by omega)).symm.trans h_9)
  · refine g_aload_n hC dX12_count_12 rfl 0 rfl ?_
    refine g_iload_n hC dX12_count_13 rfl 1 rfl ?_
    refine g_callV hC (f_X12_counted (kl K) E q ab be fe fc mo bl ta tl tkn va a g n wh (hn) (hn7) (by omega)) wX12_counted m5_72 dX12_count_14 [0, 1, 3] [(q 0, .inr (12, oM q ab be fe fc mo bl ta tl tkn va)), (q 1, .inl (E.2.1 0, 188, .inl a)), (q 4, .inl (E.2.1 0, 3, .inl r)), (q 5, .inl (E.2.1 0, 7, .inl (hnd a g n)))] 0 12 rfl rfl (by decide) rfl (Nat.le_of_ble_eq_true rfl) rfl rfl rfl rfl rfl ?_
    refine g_goto (tgt := 26) hC dX12_count_17 (by decide) ?_
    exact g_val (rfl) (g_ws (rfl) (hR _ _ dX12_count_26))
set_option maxHeartbeats 4000000 in
set_option maxRecDepth 100000 in
theorem f_X12_count_bad (l : Launch) (E : Ew) (q : Nat → Nat) (ab : Int64) (be : Int64) (fe : Int32) (fc : Int32) (mo : Int32) (bl : Int32) (ta : Int32) (tl : Int32) (tkn : Int32) (va : Int32) (r : Nat → Int32) (wh : Int32) (hb : inB wh 7 = false) : Fn l E 1 yX12_count cX12_count 2 (some .int) [.ref (q 0), .int wh] [(q 0, .inr (12, oM q ab be fe fc mo bl ta tl tkn va)), (q 4, .inl (E.2.1 0, 3, .inl r))] (some (.int (-2))) [(q 0, .inr (12, oM q ab be fe fc mo bl ta tl tkn va)), (q 4, .inl (E.2.1 0, 3, .inl (upd r 0 (r 0 + nI 1))))] := by
  refine fn_I (by decide) (Nat.le_of_ble_eq_true rfl) rfl ?_
  intro K hC hR
  show G K E 2 [(q 0, .inr (12, oM q ab be fe fc mo bl ta tl tkn va)), (q 4, .inl (E.2.1 0, 3, .inl r))] [(0, .ref (q 0)), (1, .int wh)] 0 []
  refine g_iload_n hC dX12_count_0 rfl 1 rfl ?_
  refine g_i2l hC dX12_count_1 ?_
  refine g_lconst (v := 0) hC dX12_count_2 (by decide) ?_
  refine g_ldc2 (v := 6) hC dX12_count_3 m5_71 ?_
  refine g_callS hC (f_X12_in (kl K) E wh.toInt64 0 6) wX12_in m4_31 dX12_count_6 [] [(q 0, .inr (12, oM q ab be fe fc mo bl ta tl tkn va)), (q 4, .inl (E.2.1 0, 3, .inl r))] (by decide) rfl (Nat.le_of_ble_eq_true rfl) rfl rfl rfl rfl rfl ?_
  refine g_val (v' := .int (bI (inB wh 7))) (by rw [inlC (n := 7) (by decide)]) ?_
  refine g_if_eqB (tgt := 20) hC dX12_count_9 (by decide) (fun h_9 => ?_) (fun h_9 => ?_)
  · refine g_aload_n hC dX12_count_20 rfl 0 rfl ?_
    refine g_bipush (v := (-2)) hC dX12_count_21 (by decide) ?_
    refine g_callV hC (f_X12_bad (kl K) E q ab be fe fc mo bl ta tl tkn va r (-2)) wX12_bad m4_34 dX12_count_23 [0, 1] [(q 0, .inr (12, oM q ab be fe fc mo bl ta tl tkn va)), (q 4, .inl (E.2.1 0, 3, .inl (upd r 0 (r 0 + nI 1))))] 0 12 rfl rfl (by decide) rfl (Nat.le_of_ble_eq_true rfl) rfl rfl rfl rfl rfl ?_
    exact g_val (rfl) (g_ws (rfl) (hR _ _ dX12_count_26))
  · exact absurd h_9 (by rw [hb]; decide)
set_option maxHeartbeats 4000000 in
set_option maxRecDepth 100000 in
theorem f_X12_sums (l : Launch) (E : Ew) (q : Nat → Nat) (ab : Int64) (be : Int64) (fe : Int32) (fc : Int32) (mo : Int32) (bl : Int32) (ta : Int32) (tl : Int32) (tkn : Int32) (va : Int32) (a : Nat → Int32) (h : Int64) (f : Nat) (m : Nat) (hf : f + m ≤ 188) : Fn l E 0 yX12_sums cX12_sums 8 (some .long) [.ref (q 0), .long h, .int (nI f), .int (nI m)] [(q 0, .inr (12, oM q ab be fe fc mo bl ta tl tkn va)), (q 1, .inl (E.2.1 0, 188, .inl a))] (some (.long (smF a h f m))) [(q 0, .inr (12, oM q ab be fe fc mo bl ta tl tkn va)), (q 1, .inl (E.2.1 0, 188, .inl a))] := by
  refine fn_L (by decide) (Nat.le_of_ble_eq_true rfl) rfl ?_
  intro K hC hR
  show G K E 8 [(q 0, .inr (12, oM q ab be fe fc mo bl ta tl tkn va)), (q 1, .inl (E.2.1 0, 188, .inl a))] [(0, .ref (q 0)), (1, .long h), (3, .int (nI f)), (4, .int (nI m))] 0 []
  refine g_lload_n hC dX12_sums_0 rfl 1 rfl ?_
  refine g_lstore hC [(5, .long h), (0, .ref (q 0)), (1, .long h), (3, .int (nI f)), (4, .int (nI m))] dX12_sums_1 (by decide) rfl ?_
  refine g_iconst (v := (nI 0)) hC dX12_sums_3 (by decide) ?_
  refine g_istore hC [(7, .int (nI 0)), (5, .long h), (0, .ref (q 0)), (1, .long h), (3, .int (nI f)), (4, .int (nI m))] dX12_sums_4 (by decide) rfl ?_
  have L_6 : ∀ (fu : Nat) (k : Nat) (hk : k ≤ m), m - k < fu → G K E 8 [(q 0, .inr (12, oM q ab be fe fc mo bl ta tl tkn va)), (q 1, .inl (E.2.1 0, 188, .inl a))] [(7, .int (nI k)), (5, .long (smF a h f k)), (0, .ref (q 0)), (3, .int (nI f)), (4, .int (nI m))] 6 [] := by
    intro fu
    induction fu with
    | zero => intro k hk hm_6; exact absurd hm_6 (Nat.not_lt_zero _)
    | succ fu ih_6 =>
      intro k hk hm_6
      refine g_iload hC dX12_sums_6 0 rfl ?_
      refine g_iload hC dX12_sums_8 4 rfl ?_
      refine g_icmp_geN (tgt := 38) hC dX12_sums_10 (by decide) (by omega) (by omega) (fun h_10 => ?_) (fun h_10 => ?_)
      · refine g_lload hC dX12_sums_38 1 rfl ?_
        exact g_val (by rw [show k = m by omega]) (g_ws (rfl) (hR _ _ dX12_sums_40))
      · refine g_ldc2 (v := 31) hC dX12_sums_13 m5_81 ?_
        refine g_lload hC dX12_sums_16 1 rfl ?_
        refine g_lmul hC dX12_sums_18 ?_
        refine g_aload_n hC dX12_sums_19 rfl 2 rfl ?_
        refine g_get hC 0 12 0 inX12 m3_208 dX12_sums_20 rfl rfl (by decide) rfl ?_
        refine g_iload_n hC dX12_sums_23 rfl 3 rfl ?_
        refine g_iload hC dX12_sums_24 0 rfl ?_
        refine g_iaddN hC dX12_sums_26 ?_
        refine g_ialdN hC 1 dX12_sums_27 rfl (by decide) (by omega) ?_
        refine g_i2l hC dX12_sums_28 ?_
        refine g_ladd hC dX12_sums_29 ?_
        refine g_lstore hC [(5, .long ((31 * (smF a h f k)) + (a (f + k)).toInt64)), (7, .int (nI k)), (0, .ref (q 0)), (3, .int (nI f)), (4, .int (nI m))] dX12_sums_30 (by decide) rfl ?_
        refine g_iincN hC (q := 1) 1 [(7, .int (nI (k + 1))), (5, .long ((31 * (smF a h f k)) + (a (f + k)).toInt64)), (0, .ref (q 0)), (3, .int (nI f)), (4, .int (nI m))] dX12_sums_32 rfl rfl (by decide) rfl ?_
        refine g_goto (tgt := 6) hC dX12_sums_35 (by decide) ?_
        refine g_lv (lv' := [(7, .int (nI (k + 1))), (5, .long ((31 * (smF a h f k)) + (a (f + k)).toInt64)), (0, .ref (q 0)), (3, .int (nI f)), (4, .int (nI m))]) [0, 1, 2, 3, 4] rfl ?_
        refine g_lve (lv' := [(7, .int (nI (k + 1))), (5, .long (smF a h f (k + 1))), (0, .ref (q 0)), (3, .int (nI f)), (4, .int (nI m))]) (rfl) ?_
        exact ih_6 (k + 1) (by omega) (by omega)
  refine g_lv (lv' := [(7, .int (nI 0)), (5, .long h), (0, .ref (q 0)), (3, .int (nI f)), (4, .int (nI m))]) [0, 1, 2, 4, 5] rfl ?_
  refine g_lve (lv' := [(7, .int (nI 0)), (5, .long (smF a h f 0)), (0, .ref (q 0)), (3, .int (nI f)), (4, .int (nI m))]) (rfl) ?_
  exact L_6 ((m - 0) + 1) 0 (by omega) (Nat.lt_succ_self _)
set_option maxHeartbeats 4000000 in
set_option maxRecDepth 100000 in
theorem f_X12_digest (l : Launch) (E : Ew) (q : Nat → Nat) (ab : Int64) (be : Int64) (fe : Int32) (fc : Int32) (mo : Int32) (bl : Int32) (ta : Int32) (tl : Int32) (tkn : Int32) (va : Int32) (a : Nat → Int32) (g : Nat → Int32) (n : Nat) (u : Nat) (v : Nat) (hn : a 0 = nI n) (hn7 : n ≤ 7) (hu : a 2 = nI u) (hu6 : u ≤ 6) (hv : a 3 = nI v) (hv6 : v ≤ 6) : Fe l E 3 yX12_digest cX12_digest 4 (some .long) [.ref (q 0)] [(q 0, .inr (12, oM q ab be fe fc mo bl ta tl tkn va)), (q 1, .inl (E.2.1 0, 188, .inl a)), (q 5, .inl (E.2.1 0, 7, .inl g))] (some (.long (dgF a n u v bl ab be))) (fun jj => [(q 0, .inr (12, oM q ab be fe fc mo bl ta tl tkn va)), (q 1, .inl (E.2.1 0, 188, .inl a)), (q 5, .inl (E.2.1 0, 7, .inl (jj 0)))]) := by
  refine fe_L (by decide) (Nat.le_of_ble_eq_true rfl) (fun _ => rfl) ?_
  intro K hC hR
  show G K E 4 [(q 0, .inr (12, oM q ab be fe fc mo bl ta tl tkn va)), (q 1, .inl (E.2.1 0, 188, .inl a)), (q 5, .inl (E.2.1 0, 7, .inl g))] [(0, .ref (q 0))] 0 []
  refine g_ldc2 (v := 1201) hC dX12_digest_0 m5_80 ?_
  refine g_lstore_n hC [(1, .long 1201), (0, .ref (q 0))] dX12_digest_3 rfl (by decide) rfl ?_
  refine g_iconst (v := (nI 0)) hC dX12_digest_4 (by decide) ?_
  refine g_istore_n hC [(3, .int (nI 0)), (1, .long 1201), (0, .ref (q 0))] dX12_digest_5 rfl (by decide) rfl ?_
  have L_6 : ∀ (fu : Nat) (k : Nat) (gg : Nat → Int32) (hk : k ≤ 7), 7 - k < fu → G K E 4 [(q 0, .inr (12, oM q ab be fe fc mo bl ta tl tkn va)), (q 1, .inl (E.2.1 0, 188, .inl a)), (q 5, .inl (E.2.1 0, 7, .inl gg))] [(3, .int (nI k)), (1, .long (dg1 a n bl k)), (0, .ref (q 0))] 6 [] := by
    intro fu
    induction fu with
    | zero => intro k gg hk hm_6; exact absurd hm_6 (Nat.not_lt_zero _)
    | succ fu ih_6 =>
      intro k gg hk hm_6
      refine g_iload_n hC dX12_digest_6 rfl 0 rfl ?_
      refine g_bipush (v := (nI 7)) hC dX12_digest_7 (by decide) ?_
      refine g_icmp_geN (tgt := 31) hC dX12_digest_9 (by decide) (by omega) (by omega) (fun h_9 => ?_) (fun h_9 => ?_)
      · refine g_iconst (v := (nI 0)) hC dX12_digest_31 (by decide) ?_
        refine g_istore_n hC [(3, .int (nI 0)), (1, .long (dg1 a n bl k)), (0, .ref (q 0))] dX12_digest_32 rfl (by decide) rfl ?_
        have L_33 : ∀ (fu : Nat) (k : Nat) (gg : Nat → Int32) (hk : k ≤ n), n - k < fu → G K E 4 [(q 0, .inr (12, oM q ab be fe fc mo bl ta tl tkn va)), (q 1, .inl (E.2.1 0, 188, .inl a)), (q 5, .inl (E.2.1 0, 7, .inl gg))] [(3, .int (nI k)), (1, .long (dg2 a (dg1 a n bl 7) k)), (0, .ref (q 0))] 33 [] := by
          intro fu
          induction fu with
          | zero => intro k gg hk hm_33; exact absurd hm_33 (Nat.not_lt_zero _)
          | succ fu ih_33 =>
            intro k gg hk hm_33
            refine g_iload_n hC dX12_digest_33 rfl 0 rfl ?_
            refine g_aload_n hC dX12_digest_34 rfl 2 rfl ?_
            refine g_callV hC (f_X12_many (kl K) E q ab be fe fc mo bl ta tl tkn va a) wX12_many m4_38 dX12_digest_35 [0, 1] [(q 0, .inr (12, oM q ab be fe fc mo bl ta tl tkn va)), (q 1, .inl (E.2.1 0, 188, .inl a)), (q 5, .inl (E.2.1 0, 7, .inl gg))] 0 12 rfl rfl (by decide) rfl (Nat.le_of_ble_eq_true rfl) rfl rfl rfl rfl rfl ?_
            refine g_val (v' := .int (nI n)) (by rw [hn]) ?_
            refine g_icmp_geN (tgt := 93) hC dX12_digest_38 (by decide) (by omega) (by omega) (fun h_38 => ?_) (fun h_38 => ?_)
            · refine g_aload_n hC dX12_digest_93 rfl 2 rfl ?_
              refine g_lload_n hC dX12_digest_94 rfl 1 rfl ?_
              refine g_bipush (v := (nI 26)) hC dX12_digest_95 (by decide) ?_
              refine g_iconst (v := (nI 2)) hC dX12_digest_97 (by decide) ?_
              refine g_aload_n hC dX12_digest_98 rfl 2 rfl ?_
              refine g_get hC 0 12 0 inX12 m3_208 dX12_digest_99 rfl rfl (by decide) rfl ?_
              refine g_iconst (v := (nI 2)) hC dX12_digest_102 (by decide) ?_
              refine g_ialdN hC 1 dX12_digest_103 rfl (by decide) (by omega) ?_
              refine g_val (v' := .int (nI u)) (by rw [hu]) ?_
              refine g_imulN hC dX12_digest_104 ?_
              refine g_callV hC (f_X12_sums (kl K) E q ab be fe fc mo bl ta tl tkn va a (dg2 a (dg1 a n bl 7) k) 26 (2 * u) (by omega)) wX12_sums m5_82 dX12_digest_105 [0, 1] [(q 0, .inr (12, oM q ab be fe fc mo bl ta tl tkn va)), (q 1, .inl (E.2.1 0, 188, .inl a)), (q 5, .inl (E.2.1 0, 7, .inl gg))] 0 12 rfl rfl (by decide) rfl (Nat.le_of_ble_eq_true rfl) rfl rfl rfl rfl rfl ?_
              refine g_lstore_n hC [(1, .long (smF a (dg2 a (dg1 a n bl 7) k) 26 (2 * u))), (3, .int (nI k)), (0, .ref (q 0))] dX12_digest_108 rfl (by decide) rfl ?_
              refine g_aload_n hC dX12_digest_109 rfl 2 rfl ?_
              refine g_lload_n hC dX12_digest_110 rfl 0 rfl ?_
              refine g_bipush (v := (nI 38)) hC dX12_digest_111 (by decide) ?_
              refine g_iconst (v := (nI 5)) hC dX12_digest_113 (by decide) ?_
              refine g_aload_n hC dX12_digest_114 rfl 2 rfl ?_
              refine g_get hC 0 12 0 inX12 m3_208 dX12_digest_115 rfl rfl (by decide) rfl ?_
              refine g_iconst (v := (nI 3)) hC dX12_digest_118 (by decide) ?_
              refine g_ialdN hC 1 dX12_digest_119 rfl (by decide) (by omega) ?_
              refine g_val (v' := .int (nI v)) (by rw [hv]) ?_
              refine g_imulN hC dX12_digest_120 ?_
              refine g_callV hC (f_X12_sums (kl K) E q ab be fe fc mo bl ta tl tkn va a (smF a (dg2 a (dg1 a n bl 7) k) 26 (2 * u)) 38 (5 * v) (by omega)) wX12_sums m5_82 dX12_digest_121 [0, 1] [(q 0, .inr (12, oM q ab be fe fc mo bl ta tl tkn va)), (q 1, .inl (E.2.1 0, 188, .inl a)), (q 5, .inl (E.2.1 0, 7, .inl gg))] 0 12 rfl rfl (by decide) rfl (Nat.le_of_ble_eq_true rfl) rfl rfl rfl rfl rfl ?_
              refine g_lstore_n hC [(1, .long (smF a (smF a (dg2 a (dg1 a n bl 7) k) 26 (2 * u)) 38 (5 * v))), (3, .int (nI k)), (0, .ref (q 0))] dX12_digest_124 rfl (by decide) rfl ?_
              refine g_ldc2 (v := 31) hC dX12_digest_125 m5_81 ?_
              refine g_ldc2 (v := 31) hC dX12_digest_128 m5_81 ?_
              refine g_lload_n hC dX12_digest_131 rfl 0 rfl ?_
              refine g_lmul hC dX12_digest_132 ?_
              refine g_aload_n hC dX12_digest_133 rfl 2 rfl ?_
              refine g_get hC 0 12 4 inX12 m3_212 dX12_digest_134 rfl rfl (by decide) rfl ?_
              refine g_ladd hC dX12_digest_137 ?_
              refine g_lmul hC dX12_digest_138 ?_
              refine g_aload_n hC dX12_digest_139 rfl 2 rfl ?_
              refine g_get hC 0 12 5 inX12 m3_213 dX12_digest_140 rfl rfl (by decide) rfl ?_
              refine g_ladd hC dX12_digest_143 ?_
              exact g_val (by unfold dgF; rw [show k = n by omega]) (g_ws (rfl) (hR (fun jx => gg) _ _ dX12_digest_144))
            · refine g_ldc2 (v := 31) hC dX12_digest_41 m5_81 ?_
              refine g_ldc2 (v := 31) hC dX12_digest_44 m5_81 ?_
              refine g_ldc2 (v := 31) hC dX12_digest_47 m5_81 ?_
              refine g_lload_n hC dX12_digest_50 rfl 1 rfl ?_
              refine g_lmul hC dX12_digest_51 ?_
              refine g_aload_n hC dX12_digest_52 rfl 2 rfl ?_
              refine g_get hC 0 12 0 inX12 m3_208 dX12_digest_53 rfl rfl (by decide) rfl ?_
              refine g_bipush (v := (nI 19)) hC dX12_digest_56 (by decide) ?_
              refine g_iload_n hC dX12_digest_58 rfl 0 rfl ?_
              refine g_iaddN hC dX12_digest_59 ?_
              refine g_ialdN hC 1 dX12_digest_60 rfl (by decide) (by omega) ?_
              refine g_i2l hC dX12_digest_61 ?_
              refine g_ladd hC dX12_digest_62 ?_
              refine g_lmul hC dX12_digest_63 ?_
              refine g_aload_n hC dX12_digest_64 rfl 2 rfl ?_
              refine g_get hC 0 12 0 inX12 m3_208 dX12_digest_65 rfl rfl (by decide) rfl ?_
              refine g_bipush (v := (nI 12)) hC dX12_digest_68 (by decide) ?_
              refine g_iload_n hC dX12_digest_70 rfl 0 rfl ?_
              refine g_iaddN hC dX12_digest_71 ?_
              refine g_ialdN hC 1 dX12_digest_72 rfl (by decide) (by omega) ?_
              refine g_i2l hC dX12_digest_73 ?_
              refine g_ladd hC dX12_digest_74 ?_
              refine g_lmul hC dX12_digest_75 ?_
              refine g_aload_n hC dX12_digest_76 rfl 2 rfl ?_
              refine g_get hC 0 12 0 inX12 m3_208 dX12_digest_77 rfl rfl (by decide) rfl ?_
              refine g_iconst (v := (nI 5)) hC dX12_digest_80 (by decide) ?_
              refine g_iload_n hC dX12_digest_81 rfl 0 rfl ?_
              refine g_iaddN hC dX12_digest_82 ?_
              refine g_ialdN hC 1 dX12_digest_83 rfl (by decide) (by omega) ?_
              refine g_i2l hC dX12_digest_84 ?_
              refine g_ladd hC dX12_digest_85 ?_
              refine g_lstore_n hC [(1, .long ((31 * ((31 * ((31 * (dg2 a (dg1 a n bl 7) k)) + (a (19 + k)).toInt64)) + (a (12 + k)).toInt64)) + (a (5 + k)).toInt64)), (3, .int (nI k)), (0, .ref (q 0))] dX12_digest_86 rfl (by decide) rfl ?_
              refine g_iincN hC (q := 1) 1 [(3, .int (nI (k + 1))), (1, .long ((31 * ((31 * ((31 * (dg2 a (dg1 a n bl 7) k)) + (a (19 + k)).toInt64)) + (a (12 + k)).toInt64)) + (a (5 + k)).toInt64)), (0, .ref (q 0))] dX12_digest_87 rfl rfl (by decide) rfl ?_
              refine g_goto (tgt := 33) hC dX12_digest_90 (by decide) ?_
              refine g_lv (lv' := [(3, .int (nI (k + 1))), (1, .long ((31 * ((31 * ((31 * (dg2 a (dg1 a n bl 7) k)) + (a (19 + k)).toInt64)) + (a (12 + k)).toInt64)) + (a (5 + k)).toInt64)), (0, .ref (q 0))]) [0, 1, 2] rfl ?_
              refine g_lve (lv' := [(3, .int (nI (k + 1))), (1, .long (dg2 a (dg1 a n bl 7) (k + 1))), (0, .ref (q 0))]) (rfl) ?_
              exact ih_33 (k + 1) gg (by omega) (by omega)
        refine g_lv (lv' := [(3, .int (nI 0)), (1, .long (dg1 a n bl k)), (0, .ref (q 0))]) [0, 1, 2] rfl ?_
        refine g_lve (lv' := [(3, .int (nI 0)), (1, .long (dg2 a (dg1 a n bl 7) 0)), (0, .ref (q 0))]) (by rw [show k = 7 by omega]; rfl) ?_
        exact L_33 ((n - 0) + 1) 0 gg (by omega) (Nat.lt_succ_self _)
      · refine g_ldc2 (v := 31) hC dX12_digest_12 m5_81 ?_
        refine g_lload_n hC dX12_digest_15 rfl 1 rfl ?_
        refine g_lmul hC dX12_digest_16 ?_
        refine g_aload_n hC dX12_digest_17 rfl 2 rfl ?_
        refine g_iload_n hC dX12_digest_18 rfl 0 rfl ?_
        refine g_callV hC (f_X12_counted (kl K) E q ab be fe fc mo bl ta tl tkn va a gg n k (hn) (hn7) (by omega)) wX12_counted m5_72 dX12_digest_19 [0, 1, 2] [(q 0, .inr (12, oM q ab be fe fc mo bl ta tl tkn va)), (q 1, .inl (E.2.1 0, 188, .inl a)), (q 5, .inl (E.2.1 0, 7, .inl (hnd a gg n)))] 0 12 rfl rfl (by decide) rfl (Nat.le_of_ble_eq_true rfl) rfl rfl rfl rfl rfl ?_
        refine g_i2l hC dX12_digest_22 ?_
        refine g_ladd hC dX12_digest_23 ?_
        refine g_lstore_n hC [(1, .long ((31 * (dg1 a n bl k)) + (cnF a n bl k).toInt64)), (3, .int (nI k)), (0, .ref (q 0))] dX12_digest_24 rfl (by decide) rfl ?_
        refine g_iincN hC (q := 1) 1 [(3, .int (nI (k + 1))), (1, .long ((31 * (dg1 a n bl k)) + (cnF a n bl k).toInt64)), (0, .ref (q 0))] dX12_digest_25 rfl rfl (by decide) rfl ?_
        refine g_goto (tgt := 6) hC dX12_digest_28 (by decide) ?_
        refine g_lv (lv' := [(3, .int (nI (k + 1))), (1, .long ((31 * (dg1 a n bl k)) + (cnF a n bl k).toInt64)), (0, .ref (q 0))]) [0, 1, 2] rfl ?_
        refine g_lve (lv' := [(3, .int (nI (k + 1))), (1, .long (dg1 a n bl (k + 1))), (0, .ref (q 0))]) (rfl) ?_
        exact ih_6 (k + 1) (hnd a gg n) (by omega) (by omega)
  refine g_lv (lv' := [(3, .int (nI 0)), (1, .long 1201), (0, .ref (q 0))]) [0, 1, 2] rfl ?_
  refine g_lve (lv' := [(3, .int (nI 0)), (1, .long (dg1 a n bl 0)), (0, .ref (q 0))]) (rfl) ?_
  exact L_6 ((7 - 0) + 1) 0 g (by omega) (Nat.lt_succ_self _)
